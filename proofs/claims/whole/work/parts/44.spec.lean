/-! ===== the core of the state: the street, THE RULES, SCORE, z; what each call answers and makes of it ===== -/
abbrev sg_K : Type := (Nat → Nat) × sg_R × Int32 × Int32
def tN (x : Int32) : Nat := x.toNatClampNeg
theorem tN_nI {n : Nat} (h : n < 2 ^ 31) : tN (nI n) = n := nI_clamp h
theorem tN_of {v : Int32} {n : Nat} (hn : n < 2 ^ 31) (h0 : nI 0 ≤ v) (h1 : v ≤ nI n) : v = nI (tN v) ∧ tN v ≤ n := by
  obtain ⟨j, hj, e⟩ := nI_of (x := v) (Int32.not_lt.mpr h0)
  subst e
  rw [nI_leI hj hn] at h1
  rw [tN_nI hj]
  exact ⟨rfl, h1⟩
/-- k as the number of a PIECE -/
def sg_pc (σ : Nat → Nat) (k : Int32) : Option Nat := if nI 0 ≤ k ∧ k ≤ nI (σ 4) - nI 1 then some (tN k) else none
theorem sg_pc_some {σ : Nat → Nat} (h4 : σ 4 ≤ 6) {h : Nat} (hh : h < σ 4) : sg_pc σ (nI h) = some h := by
  unfold sg_pc
  rw [if_pos ((q_in (by omega)).mpr ⟨h, hh, rfl⟩), tN_nI (by omega)]
theorem sg_pc_none {σ : Nat → Nat} (h4 : σ 4 ≤ 6) {k : Int32} (hn : ¬ ∃ h, h < σ 4 ∧ k = nI h) : sg_pc σ k = none := by
  unfold sg_pc
  rw [if_neg (fun z => hn ((q_in (by omega)).mp z))]
/-- reports' and rules' numbers are in their ranges, YEAR isn't behind END -/
def sg_in (σ : Nat → Nat) : Prop := sg_ok σ ∧ σ 1 ≤ σ 0 ∧ σ 6 ≤ 8 ∧ ∀ r, r < 6 → σ (65 + 4 * r) ≤ 15 ∧ σ (66 + 4 * r) ≤ 1 ∧ σ (67 + 4 * r) ≤ 99 ∧ σ (68 + 4 * r) ≤ 99
def rK (K : sg_K) (M : dk_Mem) : Prop := sg_in K.1 ∧ rr K.1 M ∧ (∃ f, rb K.2.1 (K.1 6) f ∧ rT f M) ∧ M.1 105 2 = K.2.2.1 ∧ M.1 105 3 = K.2.2.2
/-- what a call may touch in the reference, when it is about the core alone -/
def rA (q k : Nat) : Prop := q = 105 ∨ rN q k
theorem rK.N {K : sg_K} {M M' : dk_Mem} (h : rK K M) (hf : dk_fr rN M M') : rK K M' := by
  obtain ⟨h1, h2, ⟨f, h3, h4⟩, h5, h6⟩ := h
  have e : ∀ k, M'.1 105 k = M.1 105 k := fun k => hf.2 105 k (by rintro (z | z | z | z | z) <;> omega)
  exact ⟨h1, h2.N hf, ⟨f, h3, h4.N hf⟩, by rw [e]; exact h5, by rw [e]; exact h6⟩
theorem rN_A {M M' : dk_Mem} (h : dk_fr rN M M') : dk_fr rA M M' := h.up (fun _ _ => Or.inr)
theorem rG_A {M M' : dk_Mem} (h : dk_fr rG M M') : dk_fr rA M M' := h.up (fun q k z => by
  rcases z with z | z
  · exact Or.inl z.1
  · exact Or.inr (Or.inr (Or.inl z)))
theorem f109N {M M' : dk_Mem} (h : dk_fr (fun q _ => q = 109) M M') : dk_fr rN M M' := h.up (fun q k z => Or.inr (Or.inl z))
theorem dk_fin {α : Type} {f : Int32 × α} {R : α → dk_Mem → Prop} {S : Nat → Nat → Prop} {M M2 : dk_Mem} {Q : Option Value → dk_Mem → Prop} {x : Int32} {K' : α} (hq : ∀ M2, R f.2 M2 → dk_fr S M M2 → Q (some (.int f.1)) M2) (e : f = (x, K')) (h : R K' M2) (hf : dk_fr S M M2) : Q (some (.int x)) M2 := by
  subst e
  exact hq M2 h hf
/-! the component's core -/
def cr (σ : Nat → Nat) (M : dk_Mem) : Prop := M.1 32 0 = nI (σ 5) ∧ ∀ r, r < σ 5 → M.1 33 r = nI (σ (65 + 4 * r)) ∧ M.1 34 r = nI (σ (66 + 4 * r)) ∧ M.1 35 r = nI (σ (67 + 4 * r)) ∧ M.1 36 r = nI (σ (68 + 4 * r))
def cK (K : sg_K) (M : dk_Mem) : Prop := sg_in K.1 ∧ cs K.1 M ∧ cm 22 K.1 M ∧ cbb K.2.1 M ∧ cr K.1 M ∧ M.1 14 11 = K.2.2.1 ∧ M.1 14 12 = K.2.2.2 ∧ ∃ β, dk_bo β ∧ M.1 14 13 = nI β ∧ M.1 β 0 = nI (K.1 6)
/-- the component's noise: facts, planner, scratch, what 'search' leaves -/
def cN (q k : Nat) : Prop := q = 29 ∨ q = 52 ∨ q = 87 ∨ (63 ≤ q ∧ q ≤ 80) ∨ (q = 32 ∧ 5 ≤ k)
def cA (q k : Nat) : Prop := (14 ≤ q ∧ q ≤ 23 ∧ ¬ (q = 14 ∧ k = 13)) ∨ (32 ≤ q ∧ q ≤ 36) ∨ cN q k
theorem cN_A {M M' : dk_Mem} (h : dk_fr cN M M') : dk_fr cA M M' := h.up (fun _ _ z => Or.inr (Or.inr z))
theorem cbb.fr {w : sg_R} {M M' : dk_Mem} {S : Nat → Nat → Prop} (h : cbb w M) (hf : dk_fr S M M') (hS : ∀ q k, S q k → cA q k) : cbb w M' := by
  obtain ⟨g, β, h1, h2, h3, h4⟩ := h
  exact ⟨g, β, h1, h2, h3.fr hf (fun q k a b z => by have := hS q k z; unfold cA cN dk_bo at *; omega), by rw [hf.2 14 13 (fun z => by have := hS _ _ z; unfold cA cN at *; omega)]; exact h4⟩
theorem cr.fr {σ : Nat → Nat} {M M' : dk_Mem} {S : Nat → Nat → Prop} (h : cr σ M) (hf : dk_fr S M M') (hS : ∀ q k, 32 ≤ q → q ≤ 36 → k < 5 ∨ q ≠ 32 → ¬ S q k) : cr σ M' := by
  refine ⟨by rw [hf.2 32 0 (hS _ _ (by omega) (by omega) (by omega))]; exact h.1, fun r hr => ?_⟩
  rw [hf.2 33 r (hS _ _ (by omega) (by omega) (by omega)), hf.2 34 r (hS _ _ (by omega) (by omega) (by omega)), hf.2 35 r (hS _ _ (by omega) (by omega) (by omega)), hf.2 36 r (hS _ _ (by omega) (by omega) (by omega))]
  exact h.2 r hr
theorem cK.N {K : sg_K} {M M' : dk_Mem} (h : cK K M) (hf : dk_fr cN M M') : cK K M' := by
  obtain ⟨h1, h2, h3, h4, h5, h6, h7, β, h8, h9, h10⟩ := h
  refine ⟨h1, h2.fr hf (fun q k a b z => by unfold cN at z; omega), h3.fr hf (fun q k a z => by unfold cN at z; omega), h4.fr hf (fun q k z => Or.inr (Or.inr z)), h5.fr hf (fun q k a b c z => by unfold cN at z; omega), ?_, ?_, β, h8, ?_, ?_⟩
  · rw [hf.2 14 11 (fun z => by unfold cN at z; omega)]; exact h6
  · rw [hf.2 14 12 (fun z => by unfold cN at z; omega)]; exact h7
  · rw [hf.2 14 13 (fun z => by unfold cN at z; omega)]; exact h9
  · rw [hf.2 β 0 (fun z => by unfold cN dk_bo at *; omega)]; exact h10
theorem cY_N {M M' : dk_Mem} (h : dk_fr cY M M') : dk_fr cN M M' := h.up (fun q k z => by unfold cY at z; unfold cN; omega)
/-! the calls -/
def sg_add (σ : Nat → Nat) (k l g r : Nat) : Nat → Nat := sg_up (sg_up (sg_up (sg_up (sg_up (sg_up σ 4 (σ 4 + 1)) (35 + 5 * σ 4) k) (36 + 5 * σ 4) l) (37 + 5 * σ 4) g) (38 + 5 * σ 4) r) (39 + 5 * σ 4) 0
def kf_piece (K : sg_K) (a b c d : Int32) : Int32 × sg_K := if (nI 1 ≤ a ∧ a ≤ nI 5) ∧ (nI 0 ≤ b ∧ b ≤ nI 99) ∧ (nI 0 ≤ c ∧ c ≤ nI 9) ∧ nI 0 ≤ d ∧ d ≤ nI 5 then (if K.1 4 = 6 then (-2, K) else (nI (K.1 4), (sg_add K.1 (tN a) (tN b) (tN c) (tN d), K.2))) else (-1, K)
def sg_pof (K : sg_K) (h : Nat) (x : Int32) : Int32 := if x = nI 0 then nI (K.1 (35 + 5 * h)) else if x = nI 1 then nI (K.1 (36 + 5 * h)) else if x = nI 2 then nI (K.1 (37 + 5 * h)) else if x = nI 3 then nI (K.1 (38 + 5 * h)) else if x = nI 4 then nI (K.1 (39 + 5 * h)) else if x = nI 5 then nI (sg_leans K.1 h) else if x = nI 6 then nI (sg_bears K.1 h) else if x = nI 7 then nI (sg_pays K.1 h) else if x = nI 8 then (if 0 < sg_pays K.1 h ∧ sg_does K.2.1 K.1 h = 0 then nI 1 else nI 0) else if x = nI 9 then nI (sg_does K.2.1 K.1 h) else -1
def kf_pieceOf (K : sg_K) (k x : Int32) : Int32 × sg_K := match sg_pc K.1 k with
  | none => (-1, K)
  | some h => (sg_pof K h x, K)
def kf_change (K : sg_K) (k x v : Int32) : Int32 × sg_K := match sg_pc K.1 k with
  | none => (-1, K)
  | some h => if (x = nI 1 ∧ nI 0 ≤ v ∧ v ≤ nI 99) ∨ (x = nI 2 ∧ nI 0 ≤ v ∧ v ≤ nI 9) ∨ (x = nI 3 ∧ nI 0 ≤ v ∧ v ≤ nI 5) ∨ (x = nI 4 ∧ nI 0 ≤ v ∧ v ≤ nI 1) then (nI (K.1 (35 + 5 * h + tN x)), (sg_up K.1 (35 + 5 * h + tN x) (tN v), K.2)) else (-1, K)
def kf_remake (K : sg_K) (k v : Int32) : Int32 × sg_K := match sg_pc K.1 k with
  | none => (-1, K)
  | some h => if nI 1 ≤ v ∧ v ≤ nI 5 then (nI (K.1 (35 + 5 * h)), (sg_up K.1 (35 + 5 * h) (tN v), K.2)) else (-1, K)
def kf_saying (K : sg_K) (y v : Int32) : Int32 × sg_K := if (nI 0 ≤ y ∧ y ≤ nI 15) ∧ nI 0 ≤ v ∧ v ≤ nI 15 then (nI (K.1 (7 + tN y)), (sg_up K.1 (7 + tN y) (tN v), K.2)) else (-1, K)
def kf_room (K : sg_K) (f x v : Int32) : Int32 × sg_K := if (nI 0 ≤ f ∧ f ≤ nI 5) ∧ (nI 0 ≤ x ∧ x ≤ nI 1) ∧ nI 0 ≤ v ∧ v ≤ nI 9 then (nI (K.1 (23 + 2 * tN f + tN x)), (sg_up K.1 (23 + 2 * tN f + tN x) (tN v), K.2)) else (-1, K)
def kf_roomOf (K : sg_K) (f x : Int32) : Int32 × sg_K := if (nI 0 ≤ f ∧ f ≤ nI 5) ∧ nI 0 ≤ x ∧ x ≤ nI 1 then (nI (K.1 (23 + 2 * tN f + tN x)), K) else (-1, K)
def kf_ends (K : sg_K) (v : Int32) : Int32 × sg_K := if nI 1 ≤ v ∧ v ≤ nI 16 then (if v < nI (K.1 1) then (-4, K) else (nI (K.1 0), (sg_up K.1 0 (tN v), K.2))) else (-1, K)
def sg_clr (σ : Nat → Nat) : Nat → (Nat → Nat)
  | 0 => sg_up σ 1 0
  | n + 1 => sg_up (sg_clr σ n) (39 + 5 * n) 0
def kf_anew (K : sg_K) : Int32 × sg_K := (nI (K.1 1), (sg_clr K.1 (K.1 4), K.2.1, 0, K.2.2.2))
def sg_sum (σ : Nat → Nat) : Nat → Nat
  | 0 => 0
  | n + 1 => sg_sum σ n + σ (36 + 5 * n)
def kf_state (K : sg_K) (x : Int32) : Int32 × sg_K := (if x = nI 0 then nI (K.1 1) else if x = nI 1 then nI (K.1 0) else if x = nI 2 then K.2.2.1 else if x = nI 3 then (if K.1 0 ≤ K.1 1 then nI 1 else nI 0) else if x = nI 4 then nI (sg_set K.1 (K.1 4)) else if x = nI 5 then nI (sg_sy K.1 (K.1 1)) else if x = nI 6 then nI (sg_sum K.1 (K.1 4)) else -1, K)
/-- a YEAR upon the core -/
def sg_yr (K : sg_K) (t : Option Nat) : Int32 × sg_K := (nI (sg_goes K.2.1 K.1 t).2, ((sg_goes K.2.1 K.1 t).1, K.2.1, K.2.2.1 + nI (sg_goes K.2.1 K.1 t).2, K.2.2.2))
def kf_year (K : sg_K) : Int32 × sg_K := if K.1 0 ≤ K.1 1 then (-4, K) else sg_yr K (sg_lw K.2.1 K.1)
def kf_on (K : sg_K) (n : Int32) : Int32 × sg_K := (if nI 0 ≤ n ∧ n ≤ nI 16 then nI (sg_rest K.2.1 (tN n) K.1).2 else -1, K)
