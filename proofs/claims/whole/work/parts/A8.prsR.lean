/-! ===== the grammar of THE RULES: pure ===== -/
abbrev py_Sm : Type := (Nat → Nat) → Bool
abbrev py_R : Type := Bool × Nat × py_Sm
def py_no : py_Sm := fun _ => false
def py_side (kk vv : Nat → Nat) (i : Nat) : Option Nat := if kk i = 20 then some (vv i) else if 9 ≤ kk i ∧ kk i ≤ 13 then some (10000 + (kk i - 9)) else none
def py_cmp (kk vv : Nat → Nat) (i : Nat) : py_R := match py_side kk vv i with
  | none => (false, i, py_no)
  | some c1_h => if kk (i + 1) = 21 then (match py_side kk vv (i + 2) with
    | none => (false, i + 2, py_no)
    | some c2_h => (true, i + 3, fun fe => sg_cmp (vv (i + 1)) (sg_ev fe c1_h) (sg_ev fe c2_h))) else (false, i + 1, py_no)
def py_nots (kk : Nat → Nat) : Nat → Nat → Nat
  | 0, i => i
  | f + 1, i => if kk i = 17 then py_nots kk f (i + 1) else i
def py_neg (c : Nat) (s : py_Sm) : py_Sm := fun fe => decide (c % 2 = 1) ^^ s fe
def py_one1 (kk vv : Nat → Nat) (sub : Option (Nat → py_R)) (c j : Nat) : py_R :=
  if kk j = 22 then (match sub with
    | none => (false, j, py_no)
    | some pc => if (pc (j + 1)).1 = true then (if kk (pc (j + 1)).2.1 = 23 then (true, (pc (j + 1)).2.1 + 1, py_neg c (pc (j + 1)).2.2) else (false, (pc (j + 1)).2.1, py_no)) else (false, (pc (j + 1)).2.1, py_no))
  else if (py_cmp kk vv j).1 = true then (true, (py_cmp kk vv j).2.1, py_neg c (py_cmp kk vv j).2.2) else (false, (py_cmp kk vv j).2.1, py_no)
def py_one (kk vv : Nat → Nat) (sub : Option (Nat → py_R)) (i : Nat) : py_R := py_one1 kk vv sub (py_nots kk 200 i - i) (py_nots kk 200 i)
def py_ch (kk : Nat → Nat) (el : Nat → py_R) (sep : Nat) (op : Bool → Bool → Bool) : Nat → Nat → py_Sm → py_R
  | 0, j, s => (true, j, s)
  | f + 1, j, s => if kk j = sep then (if (el (j + 1)).1 = true then py_ch kk el sep op f (el (j + 1)).2.1 (fun fe => op (s fe) ((el (j + 1)).2.2 fe)) else (false, (el (j + 1)).2.1, py_no)) else (true, j, s)
def py_sq (kk : Nat → Nat) (el : Nat → py_R) (sep : Nat) (op : Bool → Bool → Bool) (i : Nat) : py_R := if (el i).1 = true then py_ch kk el sep op 200 (el i).2.1 (el i).2.2 else (false, (el i).2.1, py_no)
def py_all (kk vv : Nat → Nat) (sub : Option (Nat → py_R)) : Nat → py_R := py_sq kk (py_one kk vv sub) 16 and
def py_cnd (kk vv : Nat → Nat) (sub : Option (Nat → py_R)) : Nat → py_R := py_sq kk (py_all kk vv sub) 15 or
def py_sub (kk vv : Nat → Nat) : Nat → Option (Nat → py_R)
  | 0 => none
  | d + 1 => some (py_cnd kk vv (py_sub kk vv d))
def py_inc (P : Nat → py_R) : Prop := ∀ i, (P i).1 = true → i < (P i).2.1
theorem py_nots_ge {kk : Nat → Nat} : ∀ f i, i ≤ py_nots kk f i
  | 0, i => Nat.le_refl _
  | f + 1, i => by
    rw [py_nots]
    split
    · have := py_nots_ge (kk := kk) f (i + 1); omega
    · exact Nat.le_refl _
theorem py_cmp_ok {kk vv : Nat → Nat} {i : Nat} (h : (py_cmp kk vv i).1 = true) : ∃ c1_h c2_h, py_side kk vv i = some c1_h ∧ kk (i + 1) = 21 ∧ py_side kk vv (i + 2) = some c2_h ∧ py_cmp kk vv i = (true, i + 3, fun fe => sg_cmp (vv (i + 1)) (sg_ev fe c1_h) (sg_ev fe c2_h)) := by
  unfold py_cmp at h ⊢
  cases h1_h : py_side kk vv i with
  | none => rw [h1_h] at h; cases h
  | some c1_h =>
    rw [h1_h] at h
    dsimp only at h ⊢
    by_cases h2_h : kk (i + 1) = 21
    · rw [if_pos h2_h] at h ⊢
      cases h3_h : py_side kk vv (i + 2) with
      | none => rw [h3_h] at h; cases h
      | some c2_h => exact ⟨c1_h, c2_h, rfl, h2_h, rfl, rfl⟩
    · rw [if_neg h2_h] at h; cases h
theorem py_one_inc {kk vv : Nat → Nat} {sub : Option (Nat → py_R)} (hs : ∀ pc, sub = some pc → py_inc pc) : py_inc (py_one kk vv sub) := fun i h => by
  have g := py_nots_ge (kk := kk) 200 i
  unfold py_one at h ⊢
  generalize py_nots kk 200 i = j at *
  unfold py_one1 at h ⊢
  by_cases h1_h : kk j = 22
  · rw [if_pos h1_h] at h ⊢
    cases sub with
    | none => cases h
    | some pc =>
      dsimp only at h ⊢
      by_cases h2_h : (pc (j + 1)).1 = true
      · rw [if_pos h2_h] at h ⊢
        have := hs pc rfl (j + 1) h2_h
        by_cases h3_h : kk (pc (j + 1)).2.1 = 23
        · rw [if_pos h3_h] at h ⊢
          show i < (pc (j + 1)).2.1 + 1
          omega
        · rw [if_neg h3_h] at h; cases h
      · rw [if_neg h2_h] at h; cases h
  · rw [if_neg h1_h] at h ⊢
    by_cases h2_h : (py_cmp kk vv j).1 = true
    · rw [if_pos h2_h] at h ⊢
      obtain ⟨c1_h, c2_h, -, -, -, e⟩ := py_cmp_ok h2_h
      rw [e]
      show i < j + 3
      omega
    · rw [if_neg h2_h] at h; cases h
theorem py_ch_ge {kk : Nat → Nat} {el : Nat → py_R} {sep : Nat} {op : Bool → Bool → Bool} (hi : py_inc el) : ∀ f j s, (py_ch kk el sep op f j s).1 = true → j ≤ (py_ch kk el sep op f j s).2.1
  | 0, j, s, _ => Nat.le_refl _
  | f + 1, j, s, h => by
    rw [py_ch] at h ⊢
    by_cases h1_h : kk j = sep
    · rw [if_pos h1_h] at h ⊢
      by_cases h2_h : (el (j + 1)).1 = true
      · rw [if_pos h2_h] at h ⊢
        have a := hi _ h2_h
        have b := py_ch_ge hi f _ _ h
        omega
      · rw [if_neg h2_h] at h; cases h
    · rw [if_neg h1_h]; exact Nat.le_refl _
theorem py_sq_inc {kk : Nat → Nat} {el : Nat → py_R} {sep : Nat} {op : Bool → Bool → Bool} (hi : py_inc el) : py_inc (py_sq kk el sep op) := fun i h => by
  unfold py_sq at h ⊢
  by_cases h2_h : (el i).1 = true
  · rw [if_pos h2_h] at h ⊢
    have a := hi _ h2_h
    have b := py_ch_ge hi 200 _ _ h
    omega
  · rw [if_neg h2_h] at h; cases h
theorem py_sub_inc {kk vv : Nat → Nat} : ∀ d pc, py_sub kk vv d = some pc → py_inc pc
  | 0, pc, h => by cases h
  | d + 1, pc, h => by
    cases h
    exact py_sq_inc (py_sq_inc (py_one_inc (py_sub_inc d)))
/-! ===== laid code that does what it should ===== -/
def sgR (f : Nat → Int32) (a b hh : Nat) (sem : py_Sm) : Prop := a < b ∧ ∀ f' : Nat → Int32, (∀ k, 121 + a ≤ k → k < 121 + b → f' k = f k) → ∀ fe en n ps r, b ≤ en → ps.length + hh ≤ 20 → okR f' fe en n b (sem fe :: ps) r → ∃ n', okR f' fe en n' a ps r
theorem sgR.mono {f : Nat → Int32} {a b h h' : Nat} {s : py_Sm} (hs : sgR f a b h s) (hh : h ≤ h') : sgR f a b h' s := ⟨hs.1, fun f' e fe en n ps r h1_h h2_h h3_h => hs.2 f' e fe en n ps r h1_h (by omega) h3_h⟩
theorem sgR.ext {f g : Nat → Int32} {a b h : Nat} {s : py_Sm} (hs : sgR f a b h s) (he : ∀ k, 121 + a ≤ k → k < 121 + b → g k = f k) : sgR g a b h s := ⟨hs.1, fun f' e => hs.2 f' (fun k h1_h h2_h => (e k h1_h h2_h).trans (he k h1_h h2_h))⟩
theorem sgR.cmp {f : Nat → Int32} {a s c1_h c2_h : Nat} (h1_h : 60 ≤ s) (h2_h : s ≤ 62) (l1_h : c1_h < 10005) (l2_h : c2_h < 10005) (v0_h : f (121 + a) = nI s) (v1_h : f (121 + a + 1) = rl_v c1_h) (v2_h : f (121 + a + 2) = rl_v c2_h) : sgR f a (a + 3) 1 (fun fe => sg_cmp s (sg_ev fe c1_h) (sg_ev fe c2_h)) := ⟨by omega, fun f' e fe en n ps r hb hl ho => ⟨n + 1, Or.inr (Or.inr (Or.inr (Or.inr ⟨by omega, by omega, s, c1_h, c2_h, h1_h, h2_h, l1_h, l2_h, (e _ (by omega) (by omega)).trans v0_h, (e _ (by omega) (by omega)).trans v1_h, (e _ (by omega) (by omega)).trans v2_h, ho⟩)))⟩⟩
theorem sgR.nt {f : Nat → Int32} {a b h : Nat} {s : py_Sm} (hs : sgR f a b h s) (v : f (121 + b) = nI 17) : sgR f a (b + 1) h (fun fe => !(s fe)) := by
  have h9_h := hs.1
  refine ⟨by omega, fun f' e fe en n ps r hb hl ho => ?_⟩
  refine hs.2 f' (fun k h1_h h2_h => e k h1_h (by omega)) fe en (n + 1) ps r (by omega) hl ?_
  exact Or.inr (Or.inl ⟨by omega, (e _ (by omega) (by omega)).trans v, s fe, ps, rfl, ho⟩)
theorem sgR.an {f : Nat → Int32} {a b c h : Nat} {s t : py_Sm} (h1_h : sgR f a b (h + 1) s) (h2_h : sgR f b c h t) (v : f (121 + c) = nI 16) : sgR f a (c + 1) (h + 1) (fun fe => and (s fe) (t fe)) := by
  have g1_h := h1_h.1
  have g2_h := h2_h.1
  refine ⟨by omega, fun f' e fe en n ps r hb hl ho => ?_⟩
  obtain ⟨m, hm⟩ := h2_h.2 f' (fun k a1_h a2_h => e k (by omega) (by omega)) fe en (n + 1) (s fe :: ps) r (by omega) (by show ps.length + 1 + h ≤ 20; omega) (Or.inr (Or.inr (Or.inl ⟨by omega, (e _ (by omega) (by omega)).trans v, t fe, s fe, ps, rfl, ho⟩)))
  exact h1_h.2 f' (fun k a1_h a2_h => e k a1_h (by omega)) fe en m ps r (by omega) hl hm
theorem sgR.oo {f : Nat → Int32} {a b c h : Nat} {s t : py_Sm} (h1_h : sgR f a b (h + 1) s) (h2_h : sgR f b c h t) (v : f (121 + c) = nI 15) : sgR f a (c + 1) (h + 1) (fun fe => or (s fe) (t fe)) := by
  have g1_h := h1_h.1
  have g2_h := h2_h.1
  refine ⟨by omega, fun f' e fe en n ps r hb hl ho => ?_⟩
  obtain ⟨m, hm⟩ := h2_h.2 f' (fun k a1_h a2_h => e k (by omega) (by omega)) fe en (n + 1) (s fe :: ps) r (by omega) (by show ps.length + 1 + h ≤ 20; omega) (Or.inr (Or.inr (Or.inr (Or.inl ⟨by omega, (e _ (by omega) (by omega)).trans v, t fe, s fe, ps, rfl, ho⟩))))
  exact h1_h.2 f' (fun k a1_h a2_h => e k a1_h (by omega)) fe en m ps r (by omega) hl hm
theorem sgR.run {f : Nat → Int32} {a b h : Nat} {s : py_Sm} (hs : sgR f a b h s) (hh : h ≤ 20) (fe : Nat → Nat) : ∃ n, okR f fe b n a [] (s fe) := hs.2 f (fun _ _ _ => rfl) fe b 1 [] (s fe) (Nat.le_refl _) (by show 0 + h ≤ 20; omega) (Or.inl ⟨rfl, rfl⟩)
/-! ===== the reference's reader ===== -/
theorem tk_num {bt : Nat → Nat} {n i : Nat} (h : tk_k bt n i = 20) : tk_v bt n i < 10000 := by
  unfold tk_v lx_v0
  unfold tk_k lx_k0 at h
  by_cases hb : tk_b bt n i < n
  · rw [if_pos hb] at h ⊢
    by_cases hl : lx_L (bt (tk_b bt n i)) = true
    · rw [if_pos hl]; omega
    · rw [if_neg hl] at h ⊢
      by_cases hd : lx_D (bt (tk_b bt n i)) = true
      · rw [if_pos hd]
        exact lx_v_4 (fun j hj => lx_r_in _ _ _ (by omega) (show tk_b bt n i + j < lx_e lx_D bt n (tk_b bt n i) by omega))
      · rw [if_neg hd] at h
        unfold lx_s at h
        repeat' split at h
        all_goals omega
  · rw [if_neg hb]; omega
theorem tk_sgn {bt : Nat → Nat} {n i : Nat} (h : tk_k bt n i = 21) : 60 ≤ tk_v bt n i ∧ tk_v bt n i ≤ 62 := by
  unfold tk_v lx_v0
  unfold tk_k lx_k0 at h
  by_cases hb : tk_b bt n i < n
  · rw [if_pos hb] at h ⊢
    by_cases hl : lx_L (bt (tk_b bt n i)) = true
    · rw [if_pos hl] at h
      exfalso
      rcases lx_ws_le (bt := bt) (b := tk_b bt n i) (s := lx_e lx_L bt n (tk_b bt n i) - tk_b bt n i) 18 0 rfl with g | g
      · have h2_h : lx_ws bt (tk_b bt n i) (lx_e lx_L bt n (tk_b bt n i) - tk_b bt n i) 18 0 = 21 := h; omega
      · have h2_h : lx_ws bt (tk_b bt n i) (lx_e lx_L bt n (tk_b bt n i) - tk_b bt n i) 18 0 = 21 := h; omega
    · rw [if_neg hl] at h ⊢
      by_cases hd : lx_D (bt (tk_b bt n i)) = true
      · rw [if_pos hd] at h
        split at h <;> omega
      · rw [if_neg hd] at h ⊢
        unfold lx_s at h
        repeat' split at h
        all_goals omega
  · rw [if_neg hb] at h; omega
theorem py_side_le {bt : Nat → Nat} {n i c : Nat} (h : py_side (tk_k bt n) (tk_v bt n) i = some c) : c < 10005 := by
  unfold py_side at h
  split at h
  · cases h
    have := tk_num (bt := bt) (n := n) (i := i) (by assumption)
    omega
  · split at h
    · cases h; omega
    · cases h
/-- the reader stands at token i; L steps are laid; o are open -/
def rPS (bt : Nat → Nat) (n i L o : Nat) (M : dk_Mem) : Prop := rLT bt n M ∧ rSt bt n i M ∧ M.1 104 10 = nI 0 ∧ M.1 104 11 = nI o ∧ M.1 104 12 = nI L ∧ L ≤ i ∧ i ≤ 200 ∧ o ≤ 3
def rPB (bt : Nat → Nat) (n i L o : Nat) (M : dk_Mem) : Prop := rLT bt n M ∧ M.1 104 7 = nI (tk_b bt n i) ∧ M.1 104 10 = nI 1 ∧ M.1 104 11 = nI o ∧ M.1 104 12 = nI L ∧ o ≤ 3
def rPf (L q k : Nat) : Prop := (q = 104 ∧ 6 ≤ k ∧ k ≤ 12) ∨ (q = 105 ∧ 121 + L ≤ k)
theorem rPf_x {L : Nat} {M M' : dk_Mem} (h : dk_fr rLx M M') : dk_fr (rPf L) M M' := h.up (fun q k z => by unfold rLx at z; unfold rPf; omega)
theorem rLT.f {bt : Nat → Nat} {n L : Nat} {M M' : dk_Mem} (h : rLT bt n M) (hf : dk_fr (rPf L) M M') : rLT bt n M' := h.fr hf (fun q k z => by unfold rPf at z; omega)
theorem tk_200 {bt : Nat → Nat} {n i : Nat} {M : dk_Mem} (hL : rLT bt n M) (h : tk_k bt n i ≠ 25) : i + 1 ≤ 200 := by
  have := (tk_lt h).1
  have := hL.2.1
  omega
theorem rPS.nx {bt : Nat → Nat} {n i L o : Nat} {M M' : dk_Mem} (h : rPS bt n i L o M) (hk : tk_k bt n i ≠ 25) (hf : dk_fr rLx M M') (hs : rSt bt n (i + 1) M') : rPS bt n (i + 1) L o M' := by
  obtain ⟨h1_h, h2_h, h3_h, h4_h, h5_h, h6_h, h7_h, h8_h⟩ := h
  have := tk_200 h1_h hk
  exact ⟨h1_h.x hf, hs, (hf.2 104 10 (by unfold rLx; omega)).trans h3_h, (hf.2 104 11 (by unfold rLx; omega)).trans h4_h, (hf.2 104 12 (by unfold rLx; omega)).trans h5_h, by omega, by omega, h8_h⟩

set_option maxRecDepth 20000 in
theorem r_passes {d : Nat} {M : dk_Mem} {Q : Option Value → dk_Mem → Prop} {bt : Nat → Nat} {n i L o : Nat} (hS : rPS bt n i L o M) {w : Nat} (hw : w < 25) (h1_h : tk_k bt n i = w → ∀ M2, dk_fr rLx M M2 → rPS bt n (i + 1) L o M2 → Q (some (.int 1)) M2) (h0_h : tk_k bt n i ≠ w → Q (some (.int 0)) M) : dk_Call (d + 3) mX12_passes [.ref 104, .int (nI w)] M Q := by
  obtain ⟨hL, hT, hB, hO, hD, hli, h200_h, h3_h⟩ := id hS
  have kl : tk_k bt n i ≤ 26 := lx_k0_le
  refine dk_enter [some (.ref 104), some (.int (nI w))] (by decide) (fun _ => rfl) (fun _ => Nat.le_of_ble_eq_true rfl) ?_
  refine w_al0 (n := 1) dX12_passes_0 rfl ?_
  refine g_Z (n := 4) f_X12_164_12 pl_104 dX12_passes_1 rfl ?_
  rw [hB]
  refine w_if_ne (n := 7) 15 dX12_passes_4 (by decide) rfl (fun z4_h => ?_) (fun z4_h => ?_)
  · skip
    refine w_iconst (n := 16) (nI 0) dX12_passes_15 (by decide) rfl ?_
    refine w_retZ0 dX12_passes_16 rfl ?_
    first | exact absurd rfl z4_h | exact h0_h (fun z => z12_h (by rw [z]))
  · skip
    refine w_al0 (n := 8) dX12_passes_7 rfl ?_
    refine g_I (n := 11) f_X12_155_12 pl_104 dX12_passes_8 rfl ?_
    rw [hT.1]
    refine w_il1 (n := 12) dX12_passes_11 rfl ?_
    refine w_ic_eq (n := 15) 17 dX12_passes_12 (by decide) rfl (fun z12_h => ?_) (fun z12_h => ?_)
    · skip
      have ew : tk_k bt n i = w := (nI_eq (by omega) (by omega)).mp z12_h
      refine w_al0 (n := 18) dX12_passes_17 rfl ?_
      refine w_cV0 (n := 21) pl_104 cl_12 s0_X12_reads k_X12_168 (Nat.le_of_ble_eq_true rfl) dX12_passes_18 rfl (r_reads hL (i := i + 1) hT.2.2.1 (fun M2 g1_h g2_h => ?_))
      refine w_iconst (n := 22) (nI 1) dX12_passes_21 (by decide) rfl ?_
      refine w_retZ1 dX12_passes_22 rfl ?_
      exact h1_h ew M2 g1_h (hS.nx (by omega) g1_h g2_h)
    · skip
      refine w_iconst (n := 16) (nI 0) dX12_passes_15 (by decide) rfl ?_
      refine w_retZ0 dX12_passes_16 rfl ?_
      first | exact absurd rfl z4_h | exact h0_h (fun z => z12_h (by rw [z]))

set_option maxRecDepth 20000 in
theorem r_passB {d : Nat} {M : dk_Mem} {Q : Option Value → dk_Mem → Prop} (hB : M.1 104 10 = nI 1) {w : Int32} (h0_h : Q (some (.int 0)) M) : dk_Call d mX12_passes [.ref 104, .int w] M Q := by
  refine dk_enter [some (.ref 104), some (.int w)] (by decide) (fun _ => rfl) (fun _ => Nat.le_of_ble_eq_true rfl) ?_
  refine w_al0 (n := 1) dX12_passes_0 rfl ?_
  refine g_Z (n := 4) f_X12_164_12 pl_104 dX12_passes_1 rfl ?_
  rw [hB]
  refine w_if_ne (n := 7) 15 dX12_passes_4 (by decide) rfl (fun z4_h => ?_) (fun z4_h => ?_)
  · skip
    refine w_iconst (n := 16) (nI 0) dX12_passes_15 (by decide) rfl ?_
    refine w_retZ0 dX12_passes_16 rfl ?_
    exact h0_h
  · skip
    exact absurd z4_h (by decide)

set_option maxRecDepth 20000 in
theorem r_step {d : Nat} {M : dk_Mem} {Q : Option Value → dk_Mem → Prop} {L : Nat} (hD : M.1 104 12 = nI L) (hl : L < 490) {x : Int32} (hq : Q none (dk_put (dk_put M 105 (121 + L) x) 104 12 (nI (L + 1)))) : dk_Call d mX12_step [.ref 104, .int x] M Q := by
  refine dk_enter [some (.ref 104), some (.int x)] (by decide) (fun _ => rfl) (fun _ => Nat.le_of_ble_eq_true rfl) ?_
  refine w_al0 (n := 1) dX12_step_0 rfl ?_
  refine g_R (n := 4) f_X12_9_12 pl_104 rf_104_0 dX12_step_1 rfl ?_
  refine w_bipush (n := 6) (nI 121) dX12_step_4 (by decide) rfl ?_
  refine w_al0 (n := 7) dX12_step_6 rfl ?_
  refine g_I (n := 10) f_X12_171_12 pl_104 dX12_step_7 rfl ?_
  rw [hD]
  refine w_iadd (n := 11) dX12_step_10 rfl ?_
  refine w_il1 (n := 12) dX12_step_11 rfl ?_
  refine i_iast (n := 13) pl_105 (j := 121 + L) (by rw [nI_add]) (by omega) (by decide) dX12_step_12 rfl ?_
  refine w_al0 (n := 14) dX12_step_13 rfl ?_
  refine w_dup (n := 15) rfl dX12_step_14 rfl ?_
  refine g_I (n := 18) f_X12_171_12 pl_104 dX12_step_15 rfl ?_
  rw [dk_put_k (by omega), hD]
  refine w_iconst (n := 19) (nI 1) dX12_step_18 (by decide) rfl ?_
  refine w_iadd (n := 20) dX12_step_19 rfl ?_
  rw [nI_add]
  refine p_I (n := 23) f_X12_171_12 pl_104 dX12_step_20 rfl ?_
  refine w_ret dX12_step_23 rfl ?_
  exact hq

set_option maxRecDepth 20000 in
theorem r_side {d : Nat} {M : dk_Mem} {Q : Option Value → dk_Mem → Prop} {bt : Nat → Nat} {n i L o : Nat} (hS : rPS bt n i L o M) (h1_h : ∀ c, py_side (tk_k bt n) (tk_v bt n) i = some c → ∀ M2, dk_fr (rPf L) M M2 → rPS bt n (i + 1) L o M2 → (∀ k, M2.1 105 k = M.1 105 k) → Q (some (.int (rl_v c))) M2) (h0_h : py_side (tk_k bt n) (tk_v bt n) i = none → ∀ M2 v, dk_fr (rPf L) M M2 → rPB bt n i L o M2 → Q (some (.int v)) M2) : dk_Call (d + 3) mX12_side [.ref 104] M Q := by
  obtain ⟨hL, hT, hB, hO, hD, hli, h200_h, h3_h⟩ := id hS
  have kl : tk_k bt n i ≤ 26 := lx_k0_le
  have fp : ∀ x, dk_fr (rPf L) M (dk_put M 104 10 x) := fun x => dk_fr.rf.put (Or.inl ⟨rfl, by omega, by omega⟩)
  have hS2 : rPS bt n i L o (dk_put M 104 10 (nI 0)) := ⟨hL.f (fp _), ⟨by rw [dk_put_k (by omega)]; exact hT.1, by rw [dk_put_k (by omega)]; exact hT.2.1, by rw [dk_put_k (by omega)]; exact hT.2.2.1, by rw [dk_put_k (by omega)]; exact hT.2.2.2⟩, dk_put_s, by rw [dk_put_k (by omega)]; exact hO, by rw [dk_put_k (by omega)]; exact hD, hli, h200_h, h3_h⟩
  have hB2 : rPB bt n i L o (dk_put M 104 10 (nI 1)) := ⟨hL.f (fp _), by rw [dk_put_k (by omega)]; exact hT.2.1, dk_put_s, by rw [dk_put_k (by omega)]; exact hO, by rw [dk_put_k (by omega)]; exact hD, h3_h⟩
  refine dk_enter [some (.ref 104), none] (by decide) (fun _ => rfl) (fun _ => Nat.le_of_ble_eq_true rfl) ?_
  refine w_al0 (n := 1) dX12_side_0 rfl ?_
  refine g_I (n := 4) f_X12_155_12 pl_104 dX12_side_1 rfl ?_
  rw [hT.1]
  refine w_bipush (n := 6) (nI 20) dX12_side_4 (by decide) rfl ?_
  refine w_ic_ne (n := 9) 16 dX12_side_6 (by decide) rfl (fun z6_h => ?_) (fun z6_h => ?_)
  · skip
    refine w_bipush (n := 18) (nI 8) dX12_side_16 (by decide) rfl ?_
    refine w_al0 (n := 19) dX12_side_18 rfl ?_
    refine g_I (n := 22) f_X12_155_12 pl_104 dX12_side_19 rfl ?_
    rw [hT.1]
    refine w_isub (n := 23) dX12_side_22 rfl ?_
    refine w_is1 (n := 24) dX12_side_23 rfl rfl (by decide) ?_
    refine w_al0 (n := 25) dX12_side_24 rfl ?_
    refine w_al0 (n := 26) dX12_side_25 rfl ?_
    refine g_Z (n := 29) f_X12_164_12 pl_104 dX12_side_26 rfl ?_
    rw [hB]
    refine w_if_ne (n := 32) 55 dX12_side_29 (by decide) rfl (fun z29_h => ?_) (fun z29_h => ?_)
    · skip
      refine w_iconst (n := 56) (nI 1) dX12_side_55 (by decide) rfl ?_
      refine w_goto 60 dX12_side_56 (by decide) ?_
      refine p_Z (n := 63) (by decide) f_X12_164_12 pl_104 dX12_side_60 rfl ?_
      refine w_al0 (n := 64) dX12_side_63 rfl ?_
      refine g_Z (n := 67) f_X12_164_12 pl_104 dX12_side_64 rfl ?_
      rw [dk_put_s]
      refine w_if_ne (n := 70) 74 dX12_side_67 (by decide) rfl (fun z67_h => ?_) (fun z67_h => ?_)
      · skip
        refine w_il1 (n := 75) dX12_side_74 rfl ?_
        refine w_retI dX12_side_75 rfl ?_
        unfold py_side at h1_h h0_h
        first | exact absurd rfl z29_h | exact absurd rfl z67_h | exact absurd z67_h (by decide) | (have e : tk_k bt n i = 20 := (nI_eq (by omega) (by decide)).mp z6_h; rw [if_pos e] at h1_h; have q := h1_h _ rfl M2 ((fp _).tr (rPf_x g1_h)) (hS2.nx (by omega) g1_h g2_h) (fun k => by rw [g1_h.2 105 k (by unfold rLx; omega), dk_put_k (by omega)]); rw [show rl_v (tk_v bt n i) = nI (tk_v bt n i) from if_pos (tk_num e)] at q; exact q) | (have e : ¬ tk_k bt n i = 20 := fun z => z6_h (by rw [z]); rw [q_in2 (by omega) (by decide) (by decide)] at t49_h; rw [if_neg e, if_pos t49_h] at h1_h; have q := h1_h _ rfl M2 ((fp _).tr (rPf_x g1_h)) (hS2.nx (by omega) g1_h g2_h) (fun k => by rw [g1_h.2 105 k (by unfold rLx; omega), dk_put_k (by omega)]); rw [show rl_v (10000 + (tk_k bt n i - 9)) = nI 8 - nI (tk_k bt n i) from by unfold rl_v; rw [if_neg (by omega), show 9 + (10000 + (tk_k bt n i - 9) - 10000) = tk_k bt n i by omega]] at q; exact q) | (have e : ¬ tk_k bt n i = 20 := fun z => z6_h (by rw [z]); rw [q_in2 (by omega) (by decide) (by decide)] at t49_h; rw [if_neg e, if_neg t49_h] at h0_h; exact h0_h rfl _ _ (fp _) hB2) | exact absurd z6_h z38_h | exact absurd z38_h z6_h
      · skip
        refine w_al0 (n := 71) dX12_side_70 rfl ?_
        refine w_cV0 (n := 74) pl_104 cl_12 s0_X12_reads k_X12_168 (Nat.le_of_ble_eq_true rfl) dX12_side_71 rfl (r_reads hS2.1 (i := i + 1) hS2.2.1.2.2.1 (fun M2 g1_h g2_h => ?_))
        refine w_il1 (n := 75) dX12_side_74 rfl ?_
        refine w_retI dX12_side_75 rfl ?_
        unfold py_side at h1_h h0_h
        first | exact absurd rfl z29_h | exact absurd rfl z67_h | exact absurd z67_h (by decide) | (have e : tk_k bt n i = 20 := (nI_eq (by omega) (by decide)).mp z6_h; rw [if_pos e] at h1_h; have q := h1_h _ rfl M2 ((fp _).tr (rPf_x g1_h)) (hS2.nx (by omega) g1_h g2_h) (fun k => by rw [g1_h.2 105 k (by unfold rLx; omega), dk_put_k (by omega)]); rw [show rl_v (tk_v bt n i) = nI (tk_v bt n i) from if_pos (tk_num e)] at q; exact q) | (have e : ¬ tk_k bt n i = 20 := fun z => z6_h (by rw [z]); rw [q_in2 (by omega) (by decide) (by decide)] at t49_h; rw [if_neg e, if_pos t49_h] at h1_h; have q := h1_h _ rfl M2 ((fp _).tr (rPf_x g1_h)) (hS2.nx (by omega) g1_h g2_h) (fun k => by rw [g1_h.2 105 k (by unfold rLx; omega), dk_put_k (by omega)]); rw [show rl_v (10000 + (tk_k bt n i - 9)) = nI 8 - nI (tk_k bt n i) from by unfold rl_v; rw [if_neg (by omega), show 9 + (10000 + (tk_k bt n i - 9) - 10000) = tk_k bt n i by omega]] at q; exact q) | (have e : ¬ tk_k bt n i = 20 := fun z => z6_h (by rw [z]); rw [q_in2 (by omega) (by decide) (by decide)] at t49_h; rw [if_neg e, if_neg t49_h] at h0_h; exact h0_h rfl _ _ (fp _) hB2) | exact absurd z6_h z38_h | exact absurd z38_h z6_h
    · skip
      refine w_al0 (n := 33) dX12_side_32 rfl ?_
      refine g_I (n := 36) f_X12_155_12 pl_104 dX12_side_33 rfl ?_
      rw [hT.1]
      refine w_bipush (n := 38) (nI 20) dX12_side_36 (by decide) rfl ?_
      refine w_ic_eq (n := 41) 59 dX12_side_38 (by decide) rfl (fun z38_h => ?_) (fun z38_h => ?_)
      · skip
        refine w_iconst (n := 60) (nI 0) dX12_side_59 (by decide) rfl ?_
        refine p_Z (n := 63) (by decide) f_X12_164_12 pl_104 dX12_side_60 rfl ?_
        refine w_al0 (n := 64) dX12_side_63 rfl ?_
        refine g_Z (n := 67) f_X12_164_12 pl_104 dX12_side_64 rfl ?_
        rw [dk_put_s]
        refine w_if_ne (n := 70) 74 dX12_side_67 (by decide) rfl (fun z67_h => ?_) (fun z67_h => ?_)
        · skip
          refine w_il1 (n := 75) dX12_side_74 rfl ?_
          refine w_retI dX12_side_75 rfl ?_
          unfold py_side at h1_h h0_h
          first | exact absurd rfl z29_h | exact absurd rfl z67_h | exact absurd z67_h (by decide) | (have e : tk_k bt n i = 20 := (nI_eq (by omega) (by decide)).mp z6_h; rw [if_pos e] at h1_h; have q := h1_h _ rfl M2 ((fp _).tr (rPf_x g1_h)) (hS2.nx (by omega) g1_h g2_h) (fun k => by rw [g1_h.2 105 k (by unfold rLx; omega), dk_put_k (by omega)]); rw [show rl_v (tk_v bt n i) = nI (tk_v bt n i) from if_pos (tk_num e)] at q; exact q) | (have e : ¬ tk_k bt n i = 20 := fun z => z6_h (by rw [z]); rw [q_in2 (by omega) (by decide) (by decide)] at t49_h; rw [if_neg e, if_pos t49_h] at h1_h; have q := h1_h _ rfl M2 ((fp _).tr (rPf_x g1_h)) (hS2.nx (by omega) g1_h g2_h) (fun k => by rw [g1_h.2 105 k (by unfold rLx; omega), dk_put_k (by omega)]); rw [show rl_v (10000 + (tk_k bt n i - 9)) = nI 8 - nI (tk_k bt n i) from by unfold rl_v; rw [if_neg (by omega), show 9 + (10000 + (tk_k bt n i - 9) - 10000) = tk_k bt n i by omega]] at q; exact q) | (have e : ¬ tk_k bt n i = 20 := fun z => z6_h (by rw [z]); rw [q_in2 (by omega) (by decide) (by decide)] at t49_h; rw [if_neg e, if_neg t49_h] at h0_h; exact h0_h rfl _ _ (fp _) hB2) | exact absurd z6_h z38_h | exact absurd z38_h z6_h
        · skip
          refine w_al0 (n := 71) dX12_side_70 rfl ?_
          refine w_cV0 (n := 74) pl_104 cl_12 s0_X12_reads k_X12_168 (Nat.le_of_ble_eq_true rfl) dX12_side_71 rfl (r_reads hS2.1 (i := i + 1) hS2.2.1.2.2.1 (fun M2 g1_h g2_h => ?_))
          refine w_il1 (n := 75) dX12_side_74 rfl ?_
          refine w_retI dX12_side_75 rfl ?_
          unfold py_side at h1_h h0_h
          first | exact absurd rfl z29_h | exact absurd rfl z67_h | exact absurd z67_h (by decide) | (have e : tk_k bt n i = 20 := (nI_eq (by omega) (by decide)).mp z6_h; rw [if_pos e] at h1_h; have q := h1_h _ rfl M2 ((fp _).tr (rPf_x g1_h)) (hS2.nx (by omega) g1_h g2_h) (fun k => by rw [g1_h.2 105 k (by unfold rLx; omega), dk_put_k (by omega)]); rw [show rl_v (tk_v bt n i) = nI (tk_v bt n i) from if_pos (tk_num e)] at q; exact q) | (have e : ¬ tk_k bt n i = 20 := fun z => z6_h (by rw [z]); rw [q_in2 (by omega) (by decide) (by decide)] at t49_h; rw [if_neg e, if_pos t49_h] at h1_h; have q := h1_h _ rfl M2 ((fp _).tr (rPf_x g1_h)) (hS2.nx (by omega) g1_h g2_h) (fun k => by rw [g1_h.2 105 k (by unfold rLx; omega), dk_put_k (by omega)]); rw [show rl_v (10000 + (tk_k bt n i - 9)) = nI 8 - nI (tk_k bt n i) from by unfold rl_v; rw [if_neg (by omega), show 9 + (10000 + (tk_k bt n i - 9) - 10000) = tk_k bt n i by omega]] at q; exact q) | (have e : ¬ tk_k bt n i = 20 := fun z => z6_h (by rw [z]); rw [q_in2 (by omega) (by decide) (by decide)] at t49_h; rw [if_neg e, if_neg t49_h] at h0_h; exact h0_h rfl _ _ (fp _) hB2) | exact absurd z6_h z38_h | exact absurd z38_h z6_h
      · skip
        refine w_al0 (n := 42) dX12_side_41 rfl ?_
        refine g_I (n := 45) f_X12_155_12 pl_104 dX12_side_42 rfl ?_
        rw [hT.1]
        refine w_bipush (n := 47) (nI 9) dX12_side_45 (by decide) rfl ?_
        refine w_bipush (n := 49) (nI 13) dX12_side_47 (by decide) rfl ?_
        refine w_cS3 (n := 52) s0_X12_in k_X12_61 (Nat.le_of_ble_eq_true rfl) dX12_side_49 rfl (r_in (fun t49_h => ?_) (fun t49_h => ?_))
        · skip
          refine w_if_ne (n := 55) 59 dX12_side_52 (by decide) rfl (fun _ => ?_) (fun h => absurd h (by decide))
          refine w_iconst (n := 60) (nI 0) dX12_side_59 (by decide) rfl ?_
          refine p_Z (n := 63) (by decide) f_X12_164_12 pl_104 dX12_side_60 rfl ?_
          refine w_al0 (n := 64) dX12_side_63 rfl ?_
          refine g_Z (n := 67) f_X12_164_12 pl_104 dX12_side_64 rfl ?_
          rw [dk_put_s]
          refine w_if_ne (n := 70) 74 dX12_side_67 (by decide) rfl (fun z67_h => ?_) (fun z67_h => ?_)
          · skip
            refine w_il1 (n := 75) dX12_side_74 rfl ?_
            refine w_retI dX12_side_75 rfl ?_
            unfold py_side at h1_h h0_h
            first | exact absurd rfl z29_h | exact absurd rfl z67_h | exact absurd z67_h (by decide) | (have e : tk_k bt n i = 20 := (nI_eq (by omega) (by decide)).mp z6_h; rw [if_pos e] at h1_h; have q := h1_h _ rfl M2 ((fp _).tr (rPf_x g1_h)) (hS2.nx (by omega) g1_h g2_h) (fun k => by rw [g1_h.2 105 k (by unfold rLx; omega), dk_put_k (by omega)]); rw [show rl_v (tk_v bt n i) = nI (tk_v bt n i) from if_pos (tk_num e)] at q; exact q) | (have e : ¬ tk_k bt n i = 20 := fun z => z6_h (by rw [z]); rw [q_in2 (by omega) (by decide) (by decide)] at t49_h; rw [if_neg e, if_pos t49_h] at h1_h; have q := h1_h _ rfl M2 ((fp _).tr (rPf_x g1_h)) (hS2.nx (by omega) g1_h g2_h) (fun k => by rw [g1_h.2 105 k (by unfold rLx; omega), dk_put_k (by omega)]); rw [show rl_v (10000 + (tk_k bt n i - 9)) = nI 8 - nI (tk_k bt n i) from by unfold rl_v; rw [if_neg (by omega), show 9 + (10000 + (tk_k bt n i - 9) - 10000) = tk_k bt n i by omega]] at q; exact q) | (have e : ¬ tk_k bt n i = 20 := fun z => z6_h (by rw [z]); rw [q_in2 (by omega) (by decide) (by decide)] at t49_h; rw [if_neg e, if_neg t49_h] at h0_h; exact h0_h rfl _ _ (fp _) hB2) | exact absurd z6_h z38_h | exact absurd z38_h z6_h
          · skip
            refine w_al0 (n := 71) dX12_side_70 rfl ?_
            refine w_cV0 (n := 74) pl_104 cl_12 s0_X12_reads k_X12_168 (Nat.le_of_ble_eq_true rfl) dX12_side_71 rfl (r_reads hS2.1 (i := i + 1) hS2.2.1.2.2.1 (fun M2 g1_h g2_h => ?_))
            refine w_il1 (n := 75) dX12_side_74 rfl ?_
            refine w_retI dX12_side_75 rfl ?_
            unfold py_side at h1_h h0_h
            first | exact absurd rfl z29_h | exact absurd rfl z67_h | exact absurd z67_h (by decide) | (have e : tk_k bt n i = 20 := (nI_eq (by omega) (by decide)).mp z6_h; rw [if_pos e] at h1_h; have q := h1_h _ rfl M2 ((fp _).tr (rPf_x g1_h)) (hS2.nx (by omega) g1_h g2_h) (fun k => by rw [g1_h.2 105 k (by unfold rLx; omega), dk_put_k (by omega)]); rw [show rl_v (tk_v bt n i) = nI (tk_v bt n i) from if_pos (tk_num e)] at q; exact q) | (have e : ¬ tk_k bt n i = 20 := fun z => z6_h (by rw [z]); rw [q_in2 (by omega) (by decide) (by decide)] at t49_h; rw [if_neg e, if_pos t49_h] at h1_h; have q := h1_h _ rfl M2 ((fp _).tr (rPf_x g1_h)) (hS2.nx (by omega) g1_h g2_h) (fun k => by rw [g1_h.2 105 k (by unfold rLx; omega), dk_put_k (by omega)]); rw [show rl_v (10000 + (tk_k bt n i - 9)) = nI 8 - nI (tk_k bt n i) from by unfold rl_v; rw [if_neg (by omega), show 9 + (10000 + (tk_k bt n i - 9) - 10000) = tk_k bt n i by omega]] at q; exact q) | (have e : ¬ tk_k bt n i = 20 := fun z => z6_h (by rw [z]); rw [q_in2 (by omega) (by decide) (by decide)] at t49_h; rw [if_neg e, if_neg t49_h] at h0_h; exact h0_h rfl _ _ (fp _) hB2) | exact absurd z6_h z38_h | exact absurd z38_h z6_h
        · skip
          refine w_if_ne (n := 55) 59 dX12_side_52 (by decide) rfl (fun h => absurd h (by decide)) (fun _ => ?_)
          refine w_iconst (n := 56) (nI 1) dX12_side_55 (by decide) rfl ?_
          refine w_goto 60 dX12_side_56 (by decide) ?_
          refine p_Z (n := 63) (by decide) f_X12_164_12 pl_104 dX12_side_60 rfl ?_
          refine w_al0 (n := 64) dX12_side_63 rfl ?_
          refine g_Z (n := 67) f_X12_164_12 pl_104 dX12_side_64 rfl ?_
          rw [dk_put_s]
          refine w_if_ne (n := 70) 74 dX12_side_67 (by decide) rfl (fun z67_h => ?_) (fun z67_h => ?_)
          · skip
            refine w_il1 (n := 75) dX12_side_74 rfl ?_
            refine w_retI dX12_side_75 rfl ?_
            unfold py_side at h1_h h0_h
            first | exact absurd rfl z29_h | exact absurd rfl z67_h | exact absurd z67_h (by decide) | (have e : tk_k bt n i = 20 := (nI_eq (by omega) (by decide)).mp z6_h; rw [if_pos e] at h1_h; have q := h1_h _ rfl M2 ((fp _).tr (rPf_x g1_h)) (hS2.nx (by omega) g1_h g2_h) (fun k => by rw [g1_h.2 105 k (by unfold rLx; omega), dk_put_k (by omega)]); rw [show rl_v (tk_v bt n i) = nI (tk_v bt n i) from if_pos (tk_num e)] at q; exact q) | (have e : ¬ tk_k bt n i = 20 := fun z => z6_h (by rw [z]); rw [q_in2 (by omega) (by decide) (by decide)] at t49_h; rw [if_neg e, if_pos t49_h] at h1_h; have q := h1_h _ rfl M2 ((fp _).tr (rPf_x g1_h)) (hS2.nx (by omega) g1_h g2_h) (fun k => by rw [g1_h.2 105 k (by unfold rLx; omega), dk_put_k (by omega)]); rw [show rl_v (10000 + (tk_k bt n i - 9)) = nI 8 - nI (tk_k bt n i) from by unfold rl_v; rw [if_neg (by omega), show 9 + (10000 + (tk_k bt n i - 9) - 10000) = tk_k bt n i by omega]] at q; exact q) | (have e : ¬ tk_k bt n i = 20 := fun z => z6_h (by rw [z]); rw [q_in2 (by omega) (by decide) (by decide)] at t49_h; rw [if_neg e, if_neg t49_h] at h0_h; exact h0_h rfl _ _ (fp _) hB2) | exact absurd z6_h z38_h | exact absurd z38_h z6_h
          · skip
            refine w_al0 (n := 71) dX12_side_70 rfl ?_
            refine w_cV0 (n := 74) pl_104 cl_12 s0_X12_reads k_X12_168 (Nat.le_of_ble_eq_true rfl) dX12_side_71 rfl (r_reads hS2.1 (i := i + 1) hS2.2.1.2.2.1 (fun M2 g1_h g2_h => ?_))
            refine w_il1 (n := 75) dX12_side_74 rfl ?_
            refine w_retI dX12_side_75 rfl ?_
            unfold py_side at h1_h h0_h
            first | exact absurd rfl z29_h | exact absurd rfl z67_h | exact absurd z67_h (by decide) | (have e : tk_k bt n i = 20 := (nI_eq (by omega) (by decide)).mp z6_h; rw [if_pos e] at h1_h; have q := h1_h _ rfl M2 ((fp _).tr (rPf_x g1_h)) (hS2.nx (by omega) g1_h g2_h) (fun k => by rw [g1_h.2 105 k (by unfold rLx; omega), dk_put_k (by omega)]); rw [show rl_v (tk_v bt n i) = nI (tk_v bt n i) from if_pos (tk_num e)] at q; exact q) | (have e : ¬ tk_k bt n i = 20 := fun z => z6_h (by rw [z]); rw [q_in2 (by omega) (by decide) (by decide)] at t49_h; rw [if_neg e, if_pos t49_h] at h1_h; have q := h1_h _ rfl M2 ((fp _).tr (rPf_x g1_h)) (hS2.nx (by omega) g1_h g2_h) (fun k => by rw [g1_h.2 105 k (by unfold rLx; omega), dk_put_k (by omega)]); rw [show rl_v (10000 + (tk_k bt n i - 9)) = nI 8 - nI (tk_k bt n i) from by unfold rl_v; rw [if_neg (by omega), show 9 + (10000 + (tk_k bt n i - 9) - 10000) = tk_k bt n i by omega]] at q; exact q) | (have e : ¬ tk_k bt n i = 20 := fun z => z6_h (by rw [z]); rw [q_in2 (by omega) (by decide) (by decide)] at t49_h; rw [if_neg e, if_neg t49_h] at h0_h; exact h0_h rfl _ _ (fp _) hB2) | exact absurd z6_h z38_h | exact absurd z38_h z6_h
  · skip
    refine w_al0 (n := 10) dX12_side_9 rfl ?_
    refine g_I (n := 13) f_X12_152_12 pl_104 dX12_side_10 rfl ?_
    rw [hT.2.2.2]
    refine w_goto 23 dX12_side_13 (by decide) ?_
    refine w_is1 (n := 24) dX12_side_23 rfl rfl (by decide) ?_
    refine w_al0 (n := 25) dX12_side_24 rfl ?_
    refine w_al0 (n := 26) dX12_side_25 rfl ?_
    refine g_Z (n := 29) f_X12_164_12 pl_104 dX12_side_26 rfl ?_
    rw [hB]
    refine w_if_ne (n := 32) 55 dX12_side_29 (by decide) rfl (fun z29_h => ?_) (fun z29_h => ?_)
    · skip
      refine w_iconst (n := 56) (nI 1) dX12_side_55 (by decide) rfl ?_
      refine w_goto 60 dX12_side_56 (by decide) ?_
      refine p_Z (n := 63) (by decide) f_X12_164_12 pl_104 dX12_side_60 rfl ?_
      refine w_al0 (n := 64) dX12_side_63 rfl ?_
      refine g_Z (n := 67) f_X12_164_12 pl_104 dX12_side_64 rfl ?_
      rw [dk_put_s]
      refine w_if_ne (n := 70) 74 dX12_side_67 (by decide) rfl (fun z67_h => ?_) (fun z67_h => ?_)
      · skip
        refine w_il1 (n := 75) dX12_side_74 rfl ?_
        refine w_retI dX12_side_75 rfl ?_
        unfold py_side at h1_h h0_h
        first | exact absurd rfl z29_h | exact absurd rfl z67_h | exact absurd z67_h (by decide) | (have e : tk_k bt n i = 20 := (nI_eq (by omega) (by decide)).mp z6_h; rw [if_pos e] at h1_h; have q := h1_h _ rfl M2 ((fp _).tr (rPf_x g1_h)) (hS2.nx (by omega) g1_h g2_h) (fun k => by rw [g1_h.2 105 k (by unfold rLx; omega), dk_put_k (by omega)]); rw [show rl_v (tk_v bt n i) = nI (tk_v bt n i) from if_pos (tk_num e)] at q; exact q) | (have e : ¬ tk_k bt n i = 20 := fun z => z6_h (by rw [z]); rw [q_in2 (by omega) (by decide) (by decide)] at t49_h; rw [if_neg e, if_pos t49_h] at h1_h; have q := h1_h _ rfl M2 ((fp _).tr (rPf_x g1_h)) (hS2.nx (by omega) g1_h g2_h) (fun k => by rw [g1_h.2 105 k (by unfold rLx; omega), dk_put_k (by omega)]); rw [show rl_v (10000 + (tk_k bt n i - 9)) = nI 8 - nI (tk_k bt n i) from by unfold rl_v; rw [if_neg (by omega), show 9 + (10000 + (tk_k bt n i - 9) - 10000) = tk_k bt n i by omega]] at q; exact q) | (have e : ¬ tk_k bt n i = 20 := fun z => z6_h (by rw [z]); rw [q_in2 (by omega) (by decide) (by decide)] at t49_h; rw [if_neg e, if_neg t49_h] at h0_h; exact h0_h rfl _ _ (fp _) hB2) | exact absurd z6_h z38_h | exact absurd z38_h z6_h
      · skip
        refine w_al0 (n := 71) dX12_side_70 rfl ?_
        refine w_cV0 (n := 74) pl_104 cl_12 s0_X12_reads k_X12_168 (Nat.le_of_ble_eq_true rfl) dX12_side_71 rfl (r_reads hS2.1 (i := i + 1) hS2.2.1.2.2.1 (fun M2 g1_h g2_h => ?_))
        refine w_il1 (n := 75) dX12_side_74 rfl ?_
        refine w_retI dX12_side_75 rfl ?_
        unfold py_side at h1_h h0_h
        first | exact absurd rfl z29_h | exact absurd rfl z67_h | exact absurd z67_h (by decide) | (have e : tk_k bt n i = 20 := (nI_eq (by omega) (by decide)).mp z6_h; rw [if_pos e] at h1_h; have q := h1_h _ rfl M2 ((fp _).tr (rPf_x g1_h)) (hS2.nx (by omega) g1_h g2_h) (fun k => by rw [g1_h.2 105 k (by unfold rLx; omega), dk_put_k (by omega)]); rw [show rl_v (tk_v bt n i) = nI (tk_v bt n i) from if_pos (tk_num e)] at q; exact q) | (have e : ¬ tk_k bt n i = 20 := fun z => z6_h (by rw [z]); rw [q_in2 (by omega) (by decide) (by decide)] at t49_h; rw [if_neg e, if_pos t49_h] at h1_h; have q := h1_h _ rfl M2 ((fp _).tr (rPf_x g1_h)) (hS2.nx (by omega) g1_h g2_h) (fun k => by rw [g1_h.2 105 k (by unfold rLx; omega), dk_put_k (by omega)]); rw [show rl_v (10000 + (tk_k bt n i - 9)) = nI 8 - nI (tk_k bt n i) from by unfold rl_v; rw [if_neg (by omega), show 9 + (10000 + (tk_k bt n i - 9) - 10000) = tk_k bt n i by omega]] at q; exact q) | (have e : ¬ tk_k bt n i = 20 := fun z => z6_h (by rw [z]); rw [q_in2 (by omega) (by decide) (by decide)] at t49_h; rw [if_neg e, if_neg t49_h] at h0_h; exact h0_h rfl _ _ (fp _) hB2) | exact absurd z6_h z38_h | exact absurd z38_h z6_h
    · skip
      refine w_al0 (n := 33) dX12_side_32 rfl ?_
      refine g_I (n := 36) f_X12_155_12 pl_104 dX12_side_33 rfl ?_
      rw [hT.1]
      refine w_bipush (n := 38) (nI 20) dX12_side_36 (by decide) rfl ?_
      refine w_ic_eq (n := 41) 59 dX12_side_38 (by decide) rfl (fun z38_h => ?_) (fun z38_h => ?_)
      · skip
        refine w_iconst (n := 60) (nI 0) dX12_side_59 (by decide) rfl ?_
        refine p_Z (n := 63) (by decide) f_X12_164_12 pl_104 dX12_side_60 rfl ?_
        refine w_al0 (n := 64) dX12_side_63 rfl ?_
        refine g_Z (n := 67) f_X12_164_12 pl_104 dX12_side_64 rfl ?_
        rw [dk_put_s]
        refine w_if_ne (n := 70) 74 dX12_side_67 (by decide) rfl (fun z67_h => ?_) (fun z67_h => ?_)
        · skip
          refine w_il1 (n := 75) dX12_side_74 rfl ?_
          refine w_retI dX12_side_75 rfl ?_
          unfold py_side at h1_h h0_h
          first | exact absurd rfl z29_h | exact absurd rfl z67_h | exact absurd z67_h (by decide) | (have e : tk_k bt n i = 20 := (nI_eq (by omega) (by decide)).mp z6_h; rw [if_pos e] at h1_h; have q := h1_h _ rfl M2 ((fp _).tr (rPf_x g1_h)) (hS2.nx (by omega) g1_h g2_h) (fun k => by rw [g1_h.2 105 k (by unfold rLx; omega), dk_put_k (by omega)]); rw [show rl_v (tk_v bt n i) = nI (tk_v bt n i) from if_pos (tk_num e)] at q; exact q) | (have e : ¬ tk_k bt n i = 20 := fun z => z6_h (by rw [z]); rw [q_in2 (by omega) (by decide) (by decide)] at t49_h; rw [if_neg e, if_pos t49_h] at h1_h; have q := h1_h _ rfl M2 ((fp _).tr (rPf_x g1_h)) (hS2.nx (by omega) g1_h g2_h) (fun k => by rw [g1_h.2 105 k (by unfold rLx; omega), dk_put_k (by omega)]); rw [show rl_v (10000 + (tk_k bt n i - 9)) = nI 8 - nI (tk_k bt n i) from by unfold rl_v; rw [if_neg (by omega), show 9 + (10000 + (tk_k bt n i - 9) - 10000) = tk_k bt n i by omega]] at q; exact q) | (have e : ¬ tk_k bt n i = 20 := fun z => z6_h (by rw [z]); rw [q_in2 (by omega) (by decide) (by decide)] at t49_h; rw [if_neg e, if_neg t49_h] at h0_h; exact h0_h rfl _ _ (fp _) hB2) | exact absurd z6_h z38_h | exact absurd z38_h z6_h
        · skip
          refine w_al0 (n := 71) dX12_side_70 rfl ?_
          refine w_cV0 (n := 74) pl_104 cl_12 s0_X12_reads k_X12_168 (Nat.le_of_ble_eq_true rfl) dX12_side_71 rfl (r_reads hS2.1 (i := i + 1) hS2.2.1.2.2.1 (fun M2 g1_h g2_h => ?_))
          refine w_il1 (n := 75) dX12_side_74 rfl ?_
          refine w_retI dX12_side_75 rfl ?_
          unfold py_side at h1_h h0_h
          first | exact absurd rfl z29_h | exact absurd rfl z67_h | exact absurd z67_h (by decide) | (have e : tk_k bt n i = 20 := (nI_eq (by omega) (by decide)).mp z6_h; rw [if_pos e] at h1_h; have q := h1_h _ rfl M2 ((fp _).tr (rPf_x g1_h)) (hS2.nx (by omega) g1_h g2_h) (fun k => by rw [g1_h.2 105 k (by unfold rLx; omega), dk_put_k (by omega)]); rw [show rl_v (tk_v bt n i) = nI (tk_v bt n i) from if_pos (tk_num e)] at q; exact q) | (have e : ¬ tk_k bt n i = 20 := fun z => z6_h (by rw [z]); rw [q_in2 (by omega) (by decide) (by decide)] at t49_h; rw [if_neg e, if_pos t49_h] at h1_h; have q := h1_h _ rfl M2 ((fp _).tr (rPf_x g1_h)) (hS2.nx (by omega) g1_h g2_h) (fun k => by rw [g1_h.2 105 k (by unfold rLx; omega), dk_put_k (by omega)]); rw [show rl_v (10000 + (tk_k bt n i - 9)) = nI 8 - nI (tk_k bt n i) from by unfold rl_v; rw [if_neg (by omega), show 9 + (10000 + (tk_k bt n i - 9) - 10000) = tk_k bt n i by omega]] at q; exact q) | (have e : ¬ tk_k bt n i = 20 := fun z => z6_h (by rw [z]); rw [q_in2 (by omega) (by decide) (by decide)] at t49_h; rw [if_neg e, if_neg t49_h] at h0_h; exact h0_h rfl _ _ (fp _) hB2) | exact absurd z6_h z38_h | exact absurd z38_h z6_h
      · skip
        refine w_al0 (n := 42) dX12_side_41 rfl ?_
        refine g_I (n := 45) f_X12_155_12 pl_104 dX12_side_42 rfl ?_
        rw [hT.1]
        refine w_bipush (n := 47) (nI 9) dX12_side_45 (by decide) rfl ?_
        refine w_bipush (n := 49) (nI 13) dX12_side_47 (by decide) rfl ?_
        refine w_cS3 (n := 52) s0_X12_in k_X12_61 (Nat.le_of_ble_eq_true rfl) dX12_side_49 rfl (r_in (fun t49_h => ?_) (fun t49_h => ?_))
        · skip
          refine w_if_ne (n := 55) 59 dX12_side_52 (by decide) rfl (fun _ => ?_) (fun h => absurd h (by decide))
          refine w_iconst (n := 60) (nI 0) dX12_side_59 (by decide) rfl ?_
          refine p_Z (n := 63) (by decide) f_X12_164_12 pl_104 dX12_side_60 rfl ?_
          refine w_al0 (n := 64) dX12_side_63 rfl ?_
          refine g_Z (n := 67) f_X12_164_12 pl_104 dX12_side_64 rfl ?_
          rw [dk_put_s]
          refine w_if_ne (n := 70) 74 dX12_side_67 (by decide) rfl (fun z67_h => ?_) (fun z67_h => ?_)
          · skip
            refine w_il1 (n := 75) dX12_side_74 rfl ?_
            refine w_retI dX12_side_75 rfl ?_
            unfold py_side at h1_h h0_h
            first | exact absurd rfl z29_h | exact absurd rfl z67_h | exact absurd z67_h (by decide) | (have e : tk_k bt n i = 20 := (nI_eq (by omega) (by decide)).mp z6_h; rw [if_pos e] at h1_h; have q := h1_h _ rfl M2 ((fp _).tr (rPf_x g1_h)) (hS2.nx (by omega) g1_h g2_h) (fun k => by rw [g1_h.2 105 k (by unfold rLx; omega), dk_put_k (by omega)]); rw [show rl_v (tk_v bt n i) = nI (tk_v bt n i) from if_pos (tk_num e)] at q; exact q) | (have e : ¬ tk_k bt n i = 20 := fun z => z6_h (by rw [z]); rw [q_in2 (by omega) (by decide) (by decide)] at t49_h; rw [if_neg e, if_pos t49_h] at h1_h; have q := h1_h _ rfl M2 ((fp _).tr (rPf_x g1_h)) (hS2.nx (by omega) g1_h g2_h) (fun k => by rw [g1_h.2 105 k (by unfold rLx; omega), dk_put_k (by omega)]); rw [show rl_v (10000 + (tk_k bt n i - 9)) = nI 8 - nI (tk_k bt n i) from by unfold rl_v; rw [if_neg (by omega), show 9 + (10000 + (tk_k bt n i - 9) - 10000) = tk_k bt n i by omega]] at q; exact q) | (have e : ¬ tk_k bt n i = 20 := fun z => z6_h (by rw [z]); rw [q_in2 (by omega) (by decide) (by decide)] at t49_h; rw [if_neg e, if_neg t49_h] at h0_h; exact h0_h rfl _ _ (fp _) hB2) | exact absurd z6_h z38_h | exact absurd z38_h z6_h
          · skip
            refine w_al0 (n := 71) dX12_side_70 rfl ?_
            refine w_cV0 (n := 74) pl_104 cl_12 s0_X12_reads k_X12_168 (Nat.le_of_ble_eq_true rfl) dX12_side_71 rfl (r_reads hS2.1 (i := i + 1) hS2.2.1.2.2.1 (fun M2 g1_h g2_h => ?_))
            refine w_il1 (n := 75) dX12_side_74 rfl ?_
            refine w_retI dX12_side_75 rfl ?_
            unfold py_side at h1_h h0_h
            first | exact absurd rfl z29_h | exact absurd rfl z67_h | exact absurd z67_h (by decide) | (have e : tk_k bt n i = 20 := (nI_eq (by omega) (by decide)).mp z6_h; rw [if_pos e] at h1_h; have q := h1_h _ rfl M2 ((fp _).tr (rPf_x g1_h)) (hS2.nx (by omega) g1_h g2_h) (fun k => by rw [g1_h.2 105 k (by unfold rLx; omega), dk_put_k (by omega)]); rw [show rl_v (tk_v bt n i) = nI (tk_v bt n i) from if_pos (tk_num e)] at q; exact q) | (have e : ¬ tk_k bt n i = 20 := fun z => z6_h (by rw [z]); rw [q_in2 (by omega) (by decide) (by decide)] at t49_h; rw [if_neg e, if_pos t49_h] at h1_h; have q := h1_h _ rfl M2 ((fp _).tr (rPf_x g1_h)) (hS2.nx (by omega) g1_h g2_h) (fun k => by rw [g1_h.2 105 k (by unfold rLx; omega), dk_put_k (by omega)]); rw [show rl_v (10000 + (tk_k bt n i - 9)) = nI 8 - nI (tk_k bt n i) from by unfold rl_v; rw [if_neg (by omega), show 9 + (10000 + (tk_k bt n i - 9) - 10000) = tk_k bt n i by omega]] at q; exact q) | (have e : ¬ tk_k bt n i = 20 := fun z => z6_h (by rw [z]); rw [q_in2 (by omega) (by decide) (by decide)] at t49_h; rw [if_neg e, if_neg t49_h] at h0_h; exact h0_h rfl _ _ (fp _) hB2) | exact absurd z6_h z38_h | exact absurd z38_h z6_h
        · skip
          refine w_if_ne (n := 55) 59 dX12_side_52 (by decide) rfl (fun h => absurd h (by decide)) (fun _ => ?_)
          refine w_iconst (n := 56) (nI 1) dX12_side_55 (by decide) rfl ?_
          refine w_goto 60 dX12_side_56 (by decide) ?_
          refine p_Z (n := 63) (by decide) f_X12_164_12 pl_104 dX12_side_60 rfl ?_
          refine w_al0 (n := 64) dX12_side_63 rfl ?_
          refine g_Z (n := 67) f_X12_164_12 pl_104 dX12_side_64 rfl ?_
          rw [dk_put_s]
          refine w_if_ne (n := 70) 74 dX12_side_67 (by decide) rfl (fun z67_h => ?_) (fun z67_h => ?_)
          · skip
            refine w_il1 (n := 75) dX12_side_74 rfl ?_
            refine w_retI dX12_side_75 rfl ?_
            unfold py_side at h1_h h0_h
            first | exact absurd rfl z29_h | exact absurd rfl z67_h | exact absurd z67_h (by decide) | (have e : tk_k bt n i = 20 := (nI_eq (by omega) (by decide)).mp z6_h; rw [if_pos e] at h1_h; have q := h1_h _ rfl M2 ((fp _).tr (rPf_x g1_h)) (hS2.nx (by omega) g1_h g2_h) (fun k => by rw [g1_h.2 105 k (by unfold rLx; omega), dk_put_k (by omega)]); rw [show rl_v (tk_v bt n i) = nI (tk_v bt n i) from if_pos (tk_num e)] at q; exact q) | (have e : ¬ tk_k bt n i = 20 := fun z => z6_h (by rw [z]); rw [q_in2 (by omega) (by decide) (by decide)] at t49_h; rw [if_neg e, if_pos t49_h] at h1_h; have q := h1_h _ rfl M2 ((fp _).tr (rPf_x g1_h)) (hS2.nx (by omega) g1_h g2_h) (fun k => by rw [g1_h.2 105 k (by unfold rLx; omega), dk_put_k (by omega)]); rw [show rl_v (10000 + (tk_k bt n i - 9)) = nI 8 - nI (tk_k bt n i) from by unfold rl_v; rw [if_neg (by omega), show 9 + (10000 + (tk_k bt n i - 9) - 10000) = tk_k bt n i by omega]] at q; exact q) | (have e : ¬ tk_k bt n i = 20 := fun z => z6_h (by rw [z]); rw [q_in2 (by omega) (by decide) (by decide)] at t49_h; rw [if_neg e, if_neg t49_h] at h0_h; exact h0_h rfl _ _ (fp _) hB2) | exact absurd z6_h z38_h | exact absurd z38_h z6_h
          · skip
            refine w_al0 (n := 71) dX12_side_70 rfl ?_
            refine w_cV0 (n := 74) pl_104 cl_12 s0_X12_reads k_X12_168 (Nat.le_of_ble_eq_true rfl) dX12_side_71 rfl (r_reads hS2.1 (i := i + 1) hS2.2.1.2.2.1 (fun M2 g1_h g2_h => ?_))
            refine w_il1 (n := 75) dX12_side_74 rfl ?_
            refine w_retI dX12_side_75 rfl ?_
            unfold py_side at h1_h h0_h
            first | exact absurd rfl z29_h | exact absurd rfl z67_h | exact absurd z67_h (by decide) | (have e : tk_k bt n i = 20 := (nI_eq (by omega) (by decide)).mp z6_h; rw [if_pos e] at h1_h; have q := h1_h _ rfl M2 ((fp _).tr (rPf_x g1_h)) (hS2.nx (by omega) g1_h g2_h) (fun k => by rw [g1_h.2 105 k (by unfold rLx; omega), dk_put_k (by omega)]); rw [show rl_v (tk_v bt n i) = nI (tk_v bt n i) from if_pos (tk_num e)] at q; exact q) | (have e : ¬ tk_k bt n i = 20 := fun z => z6_h (by rw [z]); rw [q_in2 (by omega) (by decide) (by decide)] at t49_h; rw [if_neg e, if_pos t49_h] at h1_h; have q := h1_h _ rfl M2 ((fp _).tr (rPf_x g1_h)) (hS2.nx (by omega) g1_h g2_h) (fun k => by rw [g1_h.2 105 k (by unfold rLx; omega), dk_put_k (by omega)]); rw [show rl_v (10000 + (tk_k bt n i - 9)) = nI 8 - nI (tk_k bt n i) from by unfold rl_v; rw [if_neg (by omega), show 9 + (10000 + (tk_k bt n i - 9) - 10000) = tk_k bt n i by omega]] at q; exact q) | (have e : ¬ tk_k bt n i = 20 := fun z => z6_h (by rw [z]); rw [q_in2 (by omega) (by decide) (by decide)] at t49_h; rw [if_neg e, if_neg t49_h] at h0_h; exact h0_h rfl _ _ (fp _) hB2) | exact absurd z6_h z38_h | exact absurd z38_h z6_h

set_option maxRecDepth 20000 in
theorem r_sideB {d : Nat} {M : dk_Mem} {Q : Option Value → dk_Mem → Prop} {bt : Nat → Nat} {n i L o : Nat} (hS : rPB bt n i L o M) (hq : ∀ M2 v, dk_fr (rPf L) M M2 → rPB bt n i L o M2 → Q (some (.int v)) M2) : dk_Call (d + 3) mX12_side [.ref 104] M Q := by
  obtain ⟨hL, hT, hB, hO, hD, h3_h⟩ := hS
  have fp : ∀ x, dk_fr (rPf L) M (dk_put M 104 10 x) := fun x => dk_fr.rf.put (Or.inl ⟨rfl, by omega, by omega⟩)
  refine dk_enter [some (.ref 104), none] (by decide) (fun _ => rfl) (fun _ => Nat.le_of_ble_eq_true rfl) ?_
  refine w_al0 (n := 1) dX12_side_0 rfl ?_
  refine g_I (n := 4) f_X12_155_12 pl_104 dX12_side_1 rfl ?_
  refine w_bipush (n := 6) (nI 20) dX12_side_4 (by decide) rfl ?_
  refine w_ic_ne (n := 9) 16 dX12_side_6 (by decide) rfl (fun z6_h => ?_) (fun z6_h => ?_)
  · skip
    refine w_bipush (n := 18) (nI 8) dX12_side_16 (by decide) rfl ?_
    refine w_al0 (n := 19) dX12_side_18 rfl ?_
    refine g_I (n := 22) f_X12_155_12 pl_104 dX12_side_19 rfl ?_
    refine w_isub (n := 23) dX12_side_22 rfl ?_
    refine w_is1 (n := 24) dX12_side_23 rfl rfl (by decide) ?_
    refine w_al0 (n := 25) dX12_side_24 rfl ?_
    refine w_al0 (n := 26) dX12_side_25 rfl ?_
    refine g_Z (n := 29) f_X12_164_12 pl_104 dX12_side_26 rfl ?_
    rw [hB]
    refine w_if_ne (n := 32) 55 dX12_side_29 (by decide) rfl (fun z29_h => ?_) (fun z29_h => ?_)
    · skip
      refine w_iconst (n := 56) (nI 1) dX12_side_55 (by decide) rfl ?_
      refine w_goto 60 dX12_side_56 (by decide) ?_
      refine p_Z (n := 63) (by decide) f_X12_164_12 pl_104 dX12_side_60 rfl ?_
      refine w_al0 (n := 64) dX12_side_63 rfl ?_
      refine g_Z (n := 67) f_X12_164_12 pl_104 dX12_side_64 rfl ?_
      rw [dk_put_s]
      refine w_if_ne (n := 70) 74 dX12_side_67 (by decide) rfl (fun z67_h => ?_) (fun z67_h => ?_)
      · skip
        refine w_il1 (n := 75) dX12_side_74 rfl ?_
        refine w_retI dX12_side_75 rfl ?_
        exact hq _ _ (fp _) ⟨hL.f (fp _), by rw [dk_put_k (by omega)]; exact hT, dk_put_s, by rw [dk_put_k (by omega)]; exact hO, by rw [dk_put_k (by omega)]; exact hD, h3_h⟩
      · skip
        exact absurd z67_h (by decide)
    · skip
      exact absurd z29_h (by decide)
  · skip
    refine w_al0 (n := 10) dX12_side_9 rfl ?_
    refine g_I (n := 13) f_X12_152_12 pl_104 dX12_side_10 rfl ?_
    refine w_goto 23 dX12_side_13 (by decide) ?_
    refine w_is1 (n := 24) dX12_side_23 rfl rfl (by decide) ?_
    refine w_al0 (n := 25) dX12_side_24 rfl ?_
    refine w_al0 (n := 26) dX12_side_25 rfl ?_
    refine g_Z (n := 29) f_X12_164_12 pl_104 dX12_side_26 rfl ?_
    rw [hB]
    refine w_if_ne (n := 32) 55 dX12_side_29 (by decide) rfl (fun z29_h => ?_) (fun z29_h => ?_)
    · skip
      refine w_iconst (n := 56) (nI 1) dX12_side_55 (by decide) rfl ?_
      refine w_goto 60 dX12_side_56 (by decide) ?_
      refine p_Z (n := 63) (by decide) f_X12_164_12 pl_104 dX12_side_60 rfl ?_
      refine w_al0 (n := 64) dX12_side_63 rfl ?_
      refine g_Z (n := 67) f_X12_164_12 pl_104 dX12_side_64 rfl ?_
      rw [dk_put_s]
      refine w_if_ne (n := 70) 74 dX12_side_67 (by decide) rfl (fun z67_h => ?_) (fun z67_h => ?_)
      · skip
        refine w_il1 (n := 75) dX12_side_74 rfl ?_
        refine w_retI dX12_side_75 rfl ?_
        exact hq _ _ (fp _) ⟨hL.f (fp _), by rw [dk_put_k (by omega)]; exact hT, dk_put_s, by rw [dk_put_k (by omega)]; exact hO, by rw [dk_put_k (by omega)]; exact hD, h3_h⟩
      · skip
        exact absurd z67_h (by decide)
    · skip
      exact absurd z29_h (by decide)
