/-! ===== one state for both sides ===== -/
def lf_rS (K : sg_K) (E : sg_E) (P : Option sg_K) (M : dk_Mem) : Prop := rK K M ∧ rE E M ∧ rP P M
def lf_cS (K : sg_K) (E : sg_E) (P : Option sg_K) (M : dk_Mem) : Prop := cK K M ∧ cE E M ∧ cP P M ∧ cB M
def dk_S (K : sg_K) (E : sg_E) (P : Option sg_K) (M : dk_Mem) : Prop := eI E ∧ lf_rS K E P M ∧ lf_cS K E P M
theorem rP.q {P : Option sg_K} {M M' : dk_Mem} (h : rP P M) (he : ∀ q k, (q = 104 ∧ k = 3) ∨ q = 106 → M'.1 q k = M.1 q k) : rP P M' := by
  cases P with
  | none => exact (he 104 3 (Or.inl ⟨rfl, rfl⟩)).trans h
  | some K =>
    refine ⟨(he 104 3 (Or.inl ⟨rfl, rfl⟩)).trans h.1, ?_⟩
    refine rK.row h.2 (fun k hk => ?_)
    rw [dk_row_at, dk_row_at]
    exact he 106 k (Or.inr rfl)
theorem lf_rS.lo {K : sg_K} {E : sg_E} {P : Option sg_K} {M M' : dk_Mem} {S : Nat → Nat → Prop} (h : lf_rS K E P M) (hf : dk_fr S M M') (hS : ∀ q k, S q k → q < 104) : lf_rS K E P M' := by
  have e : ∀ q k, 104 ≤ q → M'.1 q k = M.1 q k := fun q k hq => hf.2 q k (fun z => by have := hS q k z; omega)
  exact ⟨h.1.row (fun k _ => e 105 k (by omega)), h.2.1.fr (S := fun q k => q < 104) (hf.up hS) (fun q k z => by omega), h.2.2.q (fun q k z => e q k (by omega))⟩
theorem lf_cS.hi {K : sg_K} {E : sg_E} {P : Option sg_K} {M M' : dk_Mem} {S : Nat → Nat → Prop} (hI : eI E) (h : lf_cS K E P M) (hf : dk_fe S M M') (hS : ∀ q k, S q k → 104 ≤ q) : lf_cS K E P M' := by
  obtain ⟨h1_h, h2_h, h3_h, h4_h⟩ := h
  obtain ⟨β, γ, b0_h, b1_h, b2_h, b3_h, b4_h, b5_h⟩ := id h4_h
  have g : dk_fr (fun q k => 104 ≤ q) M (M'.1, M.2) := ⟨rfl, fun q k hn => hf q k (fun z => hn (hS q k z))⟩
  have k1_h : cK K (M'.1, M.2) := h1_h.fr (β := β) (by unfold dk_bo; omega) b1_h g (fun q k z => by omega)
  have k2_h : cE E (M'.1, M.2) := h2_h.fr hI g (fun q k z => by unfold cXX; omega)
  have k3_h : cP P (M'.1, M.2) := h3_h.fr b3_h g (fun q k z => by omega)
  have k4_h : cB (M'.1, M.2) := h4_h.fr g (fun q k z => by omega)
  refine ⟨k1_h, k2_h, ?_, k4_h⟩
  cases P with
  | none => exact k3_h
  | some K2 => exact k3_h
def lf_C (m : dk_Mt) (as : List Value) (K : sg_K) (E : sg_E) (P : Option sg_K) (r : Int32) (K' : sg_K) (E' : sg_E) (P' : Option sg_K) : Prop := ∀ (M : dk_Mem) (Q : Option Value → dk_Mem → Prop), dk_S K E P M → (∀ M2, lf_cS K' E' P' M2 → lf_rS K E P M2 → Q (some (.int r)) M2) → dk_Call 17 m (.ref 0 :: as) M Q
def lf_R (m : dk_Mt) (as : List Value) (K : sg_K) (E : sg_E) (P : Option sg_K) (r : Int32) (K' : sg_K) (E' : sg_E) (P' : Option sg_K) : Prop := ∀ (M : dk_Mem) (Q : Option Value → dk_Mem → Prop), eI E → lf_rS K E P M → lf_cS K' E' P' M → (∀ M2, dk_S K' E' P' M2 → Q (some (.int r)) M2) → dk_Call 17 m (.ref 104 :: as) M Q
theorem lf_kc {K K' : sg_K} {E : sg_E} {P : Option sg_K} {M M2 : dk_Mem} (h : dk_S K E P M) (hK : cK K' M2) (hf : dk_fr cA M M2) : lf_cS K' E P M2 ∧ lf_rS K E P M2 := by
  obtain ⟨hI, hr, h1_h, h2_h, h3_h, h4_h⟩ := h
  obtain ⟨β, γ, b0_h, b1_h, b2_h, b3_h, b4_h, b5_h⟩ := id h4_h
  exact ⟨⟨hK, h2_h.A hI hf, h3_h.fr b3_h hf (fun q k z => by unfold cA cN at z; omega), h4_h.A hf⟩, hr.lo hf (fun q k z => by unfold cA cN at z; omega)⟩
theorem lf_kr {K K' : sg_K} {E : sg_E} {P : Option sg_K} {M M2 : dk_Mem} (hI : eI E) (h : lf_rS K E P M) (hc : lf_cS K' E P M) (hK : rK K' M2) (hf : dk_fr rA M M2) : dk_S K' E P M2 :=
  ⟨hI, ⟨hK, h.2.1.A hf, h.2.2.q (fun q k z => hf.2 q k (by unfold rA rN; omega))⟩, hc.hi hI hf.e (fun q k z => by unfold rA rN at z; omega)⟩
theorem lf_nc {K : sg_K} {E : sg_E} {P : Option sg_K} {M M2 : dk_Mem} (h : dk_S K E P M) (hf : dk_fr cN M M2) : lf_cS K E P M2 ∧ lf_rS K E P M2 := lf_kc h (h.2.2.1.N hf) (hf.up (fun q k z => Or.inr (Or.inr z)))
theorem lf_nr {K : sg_K} {E : sg_E} {P : Option sg_K} {M M2 : dk_Mem} (hI : eI E) (h : lf_rS K E P M) (hc : lf_cS K E P M) (hf : dk_fr rN M M2) : dk_S K E P M2 := lf_kr hI h hc (h.1.N hf) (hf.up (fun q k z => Or.inr z))
theorem lf_ec {K : sg_K} {E E' : sg_E} {P : Option sg_K} {M M2 : dk_Mem} (h : dk_S K E P M) (hE : cE E' M2) (hf : dk_fr cXX M M2) : lf_cS K E' P M2 ∧ lf_rS K E P M2 := by
  obtain ⟨hI, hr, h1_h, h2_h, h3_h, h4_h⟩ := h
  obtain ⟨β, γ, b0_h, b1_h, b2_h, b3_h, b4_h, b5_h⟩ := id h4_h
  exact ⟨⟨h1_h.X hf, hE, h3_h.fr b3_h hf (fun q k z => by unfold cXX at z; omega), h4_h.X hf⟩, hr.lo hf (fun q k z => by unfold cXX at z; omega)⟩
theorem lf_er {K : sg_K} {E E' : sg_E} {P : Option sg_K} {M M2 : dk_Mem} (hI : eI E') (h : lf_rS K E P M) (hc : lf_cS K E' P M) (hE : rE E' M2) (hf : dk_fe rX M M2) : dk_S K E' P M2 :=
  ⟨hI, ⟨h.1.X hf, hE, h.2.2.q (fun q k z => hf q k (by unfold rX; omega))⟩, hc.hi hI hf (fun q k z => by unfold rX at z; omega)⟩
theorem lf_pc {K : sg_K} {E E' : sg_E} {P : Option sg_K} {M M2 : dk_Mem} (h : dk_S K E P M) (hK : cK K M2) (hE : cE E' M2) (hf : dk_fr cPv M M2) : lf_cS K E' P M2 ∧ lf_rS K E P M2 := by
  obtain ⟨hI, hr, h1_h, h2_h, h3_h, h4_h⟩ := h
  obtain ⟨β, γ, b0_h, b1_h, b2_h, b3_h, b4_h, b5_h⟩ := id h4_h
  exact ⟨⟨hK, hE, h3_h.fr b3_h hf (fun q k z => by unfold cPv cN at z; omega), h4_h.fr hf (fun q k z => by unfold cPv cN at z; omega)⟩, hr.lo hf (fun q k z => by unfold cPv cN at z; omega)⟩
theorem lf_pr {K : sg_K} {E E' : sg_E} {P : Option sg_K} {M M2 : dk_Mem} (hI : eI E') (h : lf_rS K E P M) (hc : lf_cS K E' P M) (hK : rK K M2) (hE : rE E' M2) (hf : dk_fr rPv M M2) : dk_S K E' P M2 :=
  ⟨hI, ⟨hK, hE, h.2.2.q (fun q k z => hf.2 q k (by unfold rPv rN; omega))⟩, hc.hi hI hf.e (fun q k z => by unfold rPv rN at z; omega)⟩
theorem lf_uc {K K' : sg_K} {E E' : sg_E} {P : Option sg_K} {M M2 : dk_Mem} (h : dk_S K E P M) (hK : cK K' M2) (hE : cE E' M2) (hB : cB M2) (hf : dk_fr cRu M M2) : lf_cS K' E' P M2 ∧ lf_rS K E P M2 := by
  obtain ⟨hI, hr, h1_h, h2_h, h3_h, h4_h⟩ := h
  obtain ⟨β, γ, b0_h, b1_h, b2_h, b3_h, b4_h, b5_h⟩ := id h4_h
  exact ⟨⟨hK, hE, h3_h.fr b3_h hf (fun q k z => by unfold cRu at z; omega), hB⟩, hr.lo hf (fun q k z => by unfold cRu at z; omega)⟩
theorem lf_ur {K K' : sg_K} {E E' : sg_E} {P : Option sg_K} {M M2 : dk_Mem} (hI : eI E') (h : lf_rS K E P M) (hc : lf_cS K' E' P M) (hK : rK K' M2) (hE : rE E' M2) (hf : dk_fr rRu M M2) : dk_S K' E' P M2 :=
  ⟨hI, ⟨hK, hE, h.2.2.q (fun q k z => hf.2 q k (by unfold rRu; omega))⟩, hc.hi hI hf.e (fun q k z => by unfold rRu at z; omega)⟩
theorem lf_tc {K : sg_K} {E : sg_E} {P : Option sg_K} {M M2 : dk_Mem} (h : dk_S K E P M) (hK : cK K M2) (hP : cP (some K) M2) (hB : cB M2) (hf : dk_fr cKp M M2) : lf_cS K E (some K) M2 ∧ lf_rS K E P M2 := by
  obtain ⟨hI, hr, h1_h, h2_h, h3_h, h4_h⟩ := h
  exact ⟨⟨hK, h2_h.fr hI hf (fun q k z => by unfold cKp at z; unfold cXX; omega), hP, hB⟩, hr.lo hf (fun q k z => by unfold cKp at z; omega)⟩
theorem lf_tr {K : sg_K} {E : sg_E} {P : Option sg_K} {M M2 : dk_Mem} (hI : eI E) (h : lf_rS K E P M) (hc : lf_cS K E (some K) M) (hK : rK K M2) (hP : rP (some K) M2) (hf : dk_fr (fun q k => q = 106 ∨ (q = 104 ∧ k = 3)) M M2) : dk_S K E (some K) M2 :=
  ⟨hI, ⟨hK, h.2.1.fr hf (fun q k z => by omega), hP⟩, hc.hi hI hf.e (fun q k z => by omega)⟩
theorem lf_ac {K K' : sg_K} {E : sg_E} {P : Option sg_K} {M M2 : dk_Mem} (h : dk_S K E P M) (hK : cK K' M2) (hP : cP P M2) (hB : cB M2) (hf : dk_fr cAg M M2) : lf_cS K' E P M2 ∧ lf_rS K E P M2 := by
  obtain ⟨hI, hr, h1_h, h2_h, h3_h, h4_h⟩ := h
  exact ⟨⟨hK, h2_h.fr hI hf (fun q k z => by unfold cAg cA cN at z; unfold cXX; omega), hP, hB⟩, hr.lo hf (fun q k z => by unfold cAg cA cN at z; omega)⟩

theorem lc_piece {K : sg_K} {E : sg_E} {P : Option sg_K} {a : Int32} {b : Int32} {c : Int32} {e : Int32} : lf_C mX11_piece [.int a, .int b, .int c, .int e] K E P ((kf_piece K a b c e).1) (kf_piece K a b c e).2 E P := fun M Q h hq => C_piece (d := 12) h.2.2.1 (fun M2 a b => hq M2 (lf_kc h a b).1 (lf_kc h a b).2)
theorem lr_piece {K : sg_K} {E : sg_E} {P : Option sg_K} {a : Int32} {b : Int32} {c : Int32} {e : Int32} : lf_R mX12_piece [.int a, .int b, .int c, .int e] K E P ((kf_piece K a b c e).1) (kf_piece K a b c e).2 E P := fun M Q hI h hc hq => R_piece (d := 14) h.1 (fun M2 a b => hq M2 (lf_kr hI h hc a b))
theorem lc_pieceOf {K : sg_K} {E : sg_E} {P : Option sg_K} {k : Int32} {x : Int32} : lf_C mX11_pieceOf [.int k, .int x] K E P ((kf_pieceOf K k x).1) (kf_pieceOf K k x).2 E P := fun M Q h hq => C_pieceOf (d := 11) h.2.2.1 (fun M2 a b => hq M2 (lf_kc h a b).1 (lf_kc h a b).2)
theorem lr_pieceOf {K : sg_K} {E : sg_E} {P : Option sg_K} {k : Int32} {x : Int32} : lf_R mX12_pieceOf [.int k, .int x] K E P ((kf_pieceOf K k x).1) (kf_pieceOf K k x).2 E P := fun M Q hI h hc hq => R_pieceOf (d := 11) h.1 (fun M2 a b => hq M2 (lf_kr hI h hc a b))
theorem lc_change {K : sg_K} {E : sg_E} {P : Option sg_K} {k : Int32} {x : Int32} {v : Int32} : lf_C mX11_change [.int k, .int x, .int v] K E P ((kf_change K k x v).1) (kf_change K k x v).2 E P := fun M Q h hq => C_change (d := 12) h.2.2.1 (fun M2 a b => hq M2 (lf_kc h a b).1 (lf_kc h a b).2)
theorem lr_change {K : sg_K} {E : sg_E} {P : Option sg_K} {k : Int32} {x : Int32} {v : Int32} : lf_R mX12_change [.int k, .int x, .int v] K E P ((kf_change K k x v).1) (kf_change K k x v).2 E P := fun M Q hI h hc hq => R_change (d := 14) h.1 (fun M2 a b => hq M2 (lf_kr hI h hc a b))
theorem lc_remake {K : sg_K} {E : sg_E} {P : Option sg_K} {k : Int32} {v : Int32} : lf_C mX11_remake [.int k, .int v] K E P ((kf_remake K k v).1) (kf_remake K k v).2 E P := fun M Q h hq => C_remake (d := 12) h.2.2.1 (fun M2 a b => hq M2 (lf_kc h a b).1 (lf_kc h a b).2)
theorem lr_remake {K : sg_K} {E : sg_E} {P : Option sg_K} {k : Int32} {v : Int32} : lf_R mX12_remake [.int k, .int v] K E P ((kf_remake K k v).1) (kf_remake K k v).2 E P := fun M Q hI h hc hq => R_remake (d := 14) h.1 (fun M2 a b => hq M2 (lf_kr hI h hc a b))
theorem lc_saying {K : sg_K} {E : sg_E} {P : Option sg_K} {y : Int32} {v : Int32} : lf_C mX11_saying [.int y, .int v] K E P ((kf_saying K y v).1) (kf_saying K y v).2 E P := fun M Q h hq => C_saying (d := 14) h.2.2.1 (fun M2 a b => hq M2 (lf_kc h a b).1 (lf_kc h a b).2)
theorem lr_saying {K : sg_K} {E : sg_E} {P : Option sg_K} {y : Int32} {v : Int32} : lf_R mX12_saying [.int y, .int v] K E P ((kf_saying K y v).1) (kf_saying K y v).2 E P := fun M Q hI h hc hq => R_saying (d := 14) h.1 (fun M2 a b => hq M2 (lf_kr hI h hc a b))
theorem lc_room {K : sg_K} {E : sg_E} {P : Option sg_K} {f0_h : Int32} {x : Int32} {v : Int32} : lf_C mX11_room [.int f0_h, .int x, .int v] K E P ((kf_room K f0_h x v).1) (kf_room K f0_h x v).2 E P := fun M Q h hq => C_room (d := 14) h.2.2.1 (fun M2 a b => hq M2 (lf_kc h a b).1 (lf_kc h a b).2)
theorem lr_room {K : sg_K} {E : sg_E} {P : Option sg_K} {f0_h : Int32} {x : Int32} {v : Int32} : lf_R mX12_room [.int f0_h, .int x, .int v] K E P ((kf_room K f0_h x v).1) (kf_room K f0_h x v).2 E P := fun M Q hI h hc hq => R_room (d := 14) h.1 (fun M2 a b => hq M2 (lf_kr hI h hc a b))
theorem lc_roomOf {K : sg_K} {E : sg_E} {P : Option sg_K} {f0_h : Int32} {x : Int32} : lf_C mX11_roomOf [.int f0_h, .int x] K E P ((kf_roomOf K f0_h x).1) (kf_roomOf K f0_h x).2 E P := fun M Q h hq => C_roomOf (d := 14) h.2.2.1 (fun M2 a b => hq M2 (lf_kc h a b).1 (lf_kc h a b).2)
theorem lr_roomOf {K : sg_K} {E : sg_E} {P : Option sg_K} {f0_h : Int32} {x : Int32} : lf_R mX12_roomOf [.int f0_h, .int x] K E P ((kf_roomOf K f0_h x).1) (kf_roomOf K f0_h x).2 E P := fun M Q hI h hc hq => R_roomOf (d := 14) h.1 (fun M2 a b => hq M2 (lf_kr hI h hc a b))
theorem lc_ends {K : sg_K} {E : sg_E} {P : Option sg_K} {v : Int32} : lf_C mX11_ends [.int v] K E P ((kf_ends K v).1) (kf_ends K v).2 E P := fun M Q h hq => C_ends (d := 14) h.2.2.1 (fun M2 a b => hq M2 (lf_kc h a b).1 (lf_kc h a b).2)
theorem lr_ends {K : sg_K} {E : sg_E} {P : Option sg_K} {v : Int32} : lf_R mX12_ends [.int v] K E P ((kf_ends K v).1) (kf_ends K v).2 E P := fun M Q hI h hc hq => R_ends (d := 14) h.1 (fun M2 a b => hq M2 (lf_kr hI h hc a b))
theorem lc_anew {K : sg_K} {E : sg_E} {P : Option sg_K}  : lf_C mX11_anew [] K E P ((kf_anew K).1) (kf_anew K).2 E P := fun M Q h hq => C_anew (d := 14) h.2.2.1 (fun M2 a b => hq M2 (lf_kc h a b).1 (lf_kc h a b).2)
theorem lr_anew {K : sg_K} {E : sg_E} {P : Option sg_K}  : lf_R mX12_anew [] K E P ((kf_anew K).1) (kf_anew K).2 E P := fun M Q hI h hc hq => R_anew (d := 14) h.1 (fun M2 a b => hq M2 (lf_kr hI h hc a b))
theorem lc_state {K : sg_K} {E : sg_E} {P : Option sg_K} {x : Int32} : lf_C mX11_state [.int x] K E P ((kf_state K x).1) (kf_state K x).2 E P := fun M Q h hq => C_state (d := 14) h.2.2.1 (fun M2 a b => hq M2 (lf_kc h a b).1 (lf_kc h a b).2)
theorem lr_state {K : sg_K} {E : sg_E} {P : Option sg_K} {x : Int32} : lf_R mX12_state [.int x] K E P ((kf_state K x).1) (kf_state K x).2 E P := fun M Q hI h hc hq => R_state (d := 14) h.1 (fun M2 a b => hq M2 (lf_kr hI h hc a b))
theorem lc_feed {K : sg_K} {E : sg_E} {P : Option sg_K} {x : Int64} {n : Int32} : lf_C mX11_feed [.long x, .int n] K E P ((ef_feed E x n).1) K (ef_feed E x n).2 P := fun M Q h hq => C_feed (d := 16) h.2.2.2.1 h.1 (fun M2 a b => hq M2 (lf_ec h a b).1 (lf_ec h a b).2)
theorem lr_feed {K : sg_K} {E : sg_E} {P : Option sg_K} {x : Int64} {n : Int32} : lf_R mX12_feed [.long x, .int n] K E P ((ef_feed E x n).1) K (ef_feed E x n).2 P := fun M Q hI h hc hq => R_feed (d := 16) h.2.1 hI (fun M2 a b => hq M2 (lf_er (eI_feed hI) h hc a b))
theorem lc_rules {K : sg_K} {E : sg_E} {P : Option sg_K}  : lf_C mX11_rules [] K E P ((ef_rules K E).1) (ef_rules K E).2.1 (ef_rules K E).2.2 P := fun M Q h hq => C_rules (d := 1) h.2.2.1 h.2.2.2.1 h.1 h.2.2.2.2.2 (fun M2 a b g f => hq M2 (lf_uc h a b g f).1 (lf_uc h a b g f).2)
theorem lr_rules {K : sg_K} {E : sg_E} {P : Option sg_K}  : lf_R mX12_rules [] K E P ((ef_rules K E).1) (ef_rules K E).2.1 (ef_rules K E).2.2 P := fun M Q hI h hc hq => R_rules (d := 0) h.1 h.2.1 hI (fun M2 a b f => hq M2 (lf_ur (eI_rules hI) h hc a b f))
theorem lc_year {K : sg_K} {E : sg_E} {P : Option sg_K}  : lf_C mX11_year [] K E P ((kf_year K).1) (kf_year K).2 E P := fun M Q h hq => C_year (d := 9) h.2.2.1 (fun M2 a b => hq M2 (lf_kc h a b).1 (lf_kc h a b).2)
theorem lr_year {K : sg_K} {E : sg_E} {P : Option sg_K}  : lf_R mX12_year [] K E P ((kf_year K).1) (kf_year K).2 E P := fun M Q hI h hc hq => R_year (d := 9) h.1 (fun M2 a b => hq M2 (lf_kr hI h hc a b))
theorem lc_on {K : sg_K} {E : sg_E} {P : Option sg_K} {n : Int32} : lf_C mX11_on [.int n] K E P ((kf_on K n).1) (kf_on K n).2 E P := fun M Q h hq => C_on (d := 8) h.2.2.1 (fun M2 a b => hq M2 (lf_kc h a b).1 (lf_kc h a b).2)
theorem lr_on {K : sg_K} {E : sg_E} {P : Option sg_K} {n : Int32} : lf_R mX12_on [.int n] K E P ((kf_on K n).1) (kf_on K n).2 E P := fun M Q hI h hc hq => R_on (d := 8) h.1 (fun M2 a b => hq M2 (lf_kr hI h hc a b))
theorem lc_when {K : sg_K} {E : sg_E} {P : Option sg_K} {k : Int32} : lf_C mX11_when [.int k] K E P ((kf_first true K k).1) (kf_first true K k).2 E P := fun M Q h hq => C_when (d := 8) h.2.2.1 (fun M2 a b => hq M2 (lf_kc h a b).1 (lf_kc h a b).2)
theorem lr_when {K : sg_K} {E : sg_E} {P : Option sg_K} {k : Int32} : lf_R mX12_when [.int k] K E P ((kf_first true K k).1) (kf_first true K k).2 E P := fun M Q hI h hc hq => R_when (d := 8) h.1 (fun M2 a b => hq M2 (lf_kr hI h hc a b))
theorem lc_gapFor {K : sg_K} {E : sg_E} {P : Option sg_K} {k : Int32} : lf_C mX11_gapFor [.int k] K E P ((kf_best 37 9 K k).1) (kf_best 37 9 K k).2 E P := fun M Q h hq => C_gapFor (d := 7) h.2.2.1 (fun M2 a b => hq M2 (lf_kc h a b).1 (lf_kc h a b).2)
theorem lr_gapFor {K : sg_K} {E : sg_E} {P : Option sg_K} {k : Int32} : lf_R mX12_gapFor [.int k] K E P ((kf_best 37 9 K k).1) (kf_best 37 9 K k).2 E P := fun M Q hI h hc hq => R_gapFor (d := 7) h.1 (fun M2 a b => hq M2 (lf_kr hI h hc a b))
theorem lc_roomFor {K : sg_K} {E : sg_E} {P : Option sg_K} {k : Int32} : lf_C mX11_roomFor [.int k] K E P ((kf_best 38 5 K k).1) (kf_best 38 5 K k).2 E P := fun M Q h hq => C_roomFor (d := 7) h.2.2.1 (fun M2 a b => hq M2 (lf_kc h a b).1 (lf_kc h a b).2)
theorem lr_roomFor {K : sg_K} {E : sg_E} {P : Option sg_K} {k : Int32} : lf_R mX12_roomFor [.int k] K E P ((kf_best 38 5 K k).1) (kf_best 38 5 K k).2 E P := fun M Q hI h hc hq => R_roomFor (d := 7) h.1 (fun M2 a b => hq M2 (lf_kr hI h hc a b))
theorem lc_itself {K : sg_K} {E : sg_E} {P : Option sg_K} {k : Int32} : lf_C mX11_itself [.int k] K E P ((kf_first false K k).1) (kf_first false K k).2 E P := fun M Q h hq => C_itself (d := 8) h.2.2.1 (fun M2 a b => hq M2 (lf_kc h a b).1 (lf_kc h a b).2)
theorem lr_itself {K : sg_K} {E : sg_E} {P : Option sg_K} {k : Int32} : lf_R mX12_itself [.int k] K E P ((kf_first false K k).1) (kf_first false K k).2 E P := fun M Q hI h hc hq => R_itself (d := 8) h.1 (fun M2 a b => hq M2 (lf_kr hI h hc a b))
theorem lc_least {K : sg_K} {E : sg_E} {P : Option sg_K} {k : Int32} : lf_C mX11_least [.int k] K E P ((kf_least K k).1) (kf_least K k).2 E P := fun M Q h hq => C_least (d := 14) h.2.2.1 (fun M2 a b => hq M2 (lf_kc h a b).1 (lf_kc h a b).2)
theorem lr_least {K : sg_K} {E : sg_E} {P : Option sg_K} {k : Int32} : lf_R mX12_least [.int k] K E P ((kf_least K k).1) (kf_least K k).2 E P := fun M Q hI h hc hq => R_least (d := 14) h.1 (fun M2 a b => hq M2 (lf_kr hI h hc a b))
theorem lc_wave {K : sg_K} {E : sg_E} {P : Option sg_K} {k : Int32} {n : Int32} : lf_C mX11_wave [.int k, .int n] K E P ((kf_wave K k n).1) (kf_wave K k n).2 E P := fun M Q h hq => C_wave (d := 8) h.2.2.1 (fun M2 a b => hq M2 (lf_kc h a b).1 (lf_kc h a b).2)
theorem lr_wave {K : sg_K} {E : sg_E} {P : Option sg_K} {k : Int32} {n : Int32} : lf_R mX12_wave [.int k, .int n] K E P ((kf_wave K k n).1) (kf_wave K k n).2 E P := fun M Q hI h hc hq => R_wave (d := 8) h.1 (fun M2 a b => hq M2 (lf_kr hI h hc a b))
theorem lc_chains {K : sg_K} {E : sg_E} {P : Option sg_K} {x : Int32} : lf_C mX11_chains [.int x] K E P ((kf_chains K x)) K E P := fun M Q h hq => C_chains (d := 13) h.2.2.1 (hq M h.2.2 h.2.1)
theorem lr_chains {K : sg_K} {E : sg_E} {P : Option sg_K} {x : Int32} : lf_R mX12_chains [.int x] K E P ((kf_chains K x)) K E P := fun M Q hI h hc hq => R_chains (d := 13) h.1 (hq M ⟨hI, h, hc⟩)
theorem lc_best {K : sg_K} {E : sg_E} {P : Option sg_K} {n : Int32} : lf_C mX11_best [.int n] K E P ((kf_bst K n)) K E P := fun M Q h hq => C_best (d := 3) h.2.2.1 (fun M2 f => hq M2 (lf_nc h f).1 (lf_nc h f).2)
theorem lr_best {K : sg_K} {E : sg_E} {P : Option sg_K} {n : Int32} : lf_R mX12_best [.int n] K E P ((kf_bst K n)) K E P := fun M Q hI h hc hq => R_best (d := 6) h.1 (fun M2 f => hq M2 (lf_nr hI h hc f))
theorem lc_ith {K : sg_K} {E : sg_E} {P : Option sg_K} {n : Int32} {i : Int32} : lf_C mX11_ith [.int n, .int i] K E P ((kf_ith K n i)) K E P := fun M Q h hq => C_ith (d := 3) h.2.2.1 (fun M2 f => hq M2 (lf_nc h f).1 (lf_nc h f).2)
theorem lr_ith {K : sg_K} {E : sg_E} {P : Option sg_K} {n : Int32} {i : Int32} : lf_R mX12_ith [.int n, .int i] K E P ((kf_ith K n i)) K E P := fun M Q hI h hc hq => R_ith (d := 6) h.1 (fun M2 f => hq M2 (lf_nr hI h hc f))
theorem lc_ways {K : sg_K} {E : sg_E} {P : Option sg_K} {n : Int32} : lf_C mX11_ways [.int n] K E P ((kf_ways K n)) K E P := fun M Q h hq => C_ways (d := 3) h.2.2.1 (fun M2 f => hq M2 (lf_nc h f).1 (lf_nc h f).2)
theorem lr_ways {K : sg_K} {E : sg_E} {P : Option sg_K} {n : Int32} : lf_R mX12_ways [.int n] K E P ((kf_ways K n)) K E P := fun M Q hI h hc hq => R_ways (d := 6) h.1 (fun M2 f => hq M2 (lf_nr hI h hc f))
theorem lc_line {K : sg_K} {E : sg_E} {P : Option sg_K} {n : Int32} {s : Int32} : lf_C mX11_line [.int n, .int s] K E P ((kf_line K n s)) K E P := fun M Q h hq => C_line (d := 3) h.2.2.1 (fun M2 f => hq M2 (lf_nc h f).1 (lf_nc h f).2)
theorem lr_line {K : sg_K} {E : sg_E} {P : Option sg_K} {n : Int32} {s : Int32} : lf_R mX12_line [.int n, .int s] K E P ((kf_line K n s)) K E P := fun M Q hI h hc hq => R_line (d := 6) h.1 (fun M2 f => hq M2 (lf_nr hI h hc f))
theorem lc_bars {K : sg_K} {E : sg_E} {P : Option sg_K} {n : Int32} {s : Int32} : lf_C mX11_bars [.int n, .int s] K E P ((kf_bars K n s)) K E P := fun M Q h hq => C_bars (d := 3) h.2.2.1 (fun M2 f => hq M2 (lf_nc h f).1 (lf_nc h f).2)
theorem lr_bars {K : sg_K} {E : sg_E} {P : Option sg_K} {n : Int32} {s : Int32} : lf_R mX12_bars [.int n, .int s] K E P ((kf_bars K n s)) K E P := fun M Q hI h hc hq => R_bars (d := 6) h.1 (fun M2 f => hq M2 (lf_nr hI h hc f))
theorem lc_game {K : sg_K} {E : sg_E} {P : Option sg_K} {n : Int32} : lf_C mX11_game [.int n] K E P ((kf_game K n)) K E P := fun M Q h hq => C_game (d := 3) h.2.2.1 (fun M2 f => hq M2 (lf_nc h f).1 (lf_nc h f).2)
theorem lr_game {K : sg_K} {E : sg_E} {P : Option sg_K} {n : Int32} : lf_R mX12_game [.int n] K E P ((kf_game K n)) K E P := fun M Q hI h hc hq => R_game (d := 5) h.1 (fun M2 f => hq M2 (lf_nr hI h hc f))
theorem lc_play {K : sg_K} {E : sg_E} {P : Option sg_K} {n : Int32} : lf_C mX11_play [.int n] K E P ((kf_play K n)) K E P := fun M Q h hq => C_play (d := 3) h.2.2.1 (fun M2 f => hq M2 (lf_nc h f).1 (lf_nc h f).2)
theorem lr_play {K : sg_K} {E : sg_E} {P : Option sg_K} {n : Int32} : lf_R mX12_play [.int n] K E P ((kf_play K n)) K E P := fun M Q hI h hc hq => R_play (d := 5) h.1 (fun M2 f => hq M2 (lf_nr hI h hc f))
theorem lc_report {K : sg_K} {E : sg_E} {P : Option sg_K} {k : Int32} {a : Int32} {l : Int32} {m : Int32} : lf_C mX11_report [.int k, .int a, .int l, .int m] K E P ((kf_report K k a l m).1) (kf_report K k a l m).2 E P := fun M Q h hq => C_report (d := 14) h.2.2.1 (fun M2 a b => hq M2 (lf_kc h a b).1 (lf_kc h a b).2)
theorem lr_report {K : sg_K} {E : sg_E} {P : Option sg_K} {k : Int32} {a : Int32} {l : Int32} {m : Int32} : lf_R mX12_report [.int k, .int a, .int l, .int m] K E P ((kf_report K k a l m).1) (kf_report K k a l m).2 E P := fun M Q hI h hc hq => R_report (d := 14) h.1 (fun M2 a b => hq M2 (lf_kr hI h hc a b))
theorem lc_forget {K : sg_K} {E : sg_E} {P : Option sg_K}  : lf_C mX11_forget [] K E P ((kf_forget K).1) (kf_forget K).2 E P := fun M Q h hq => C_forget (d := 14) h.2.2.1 (fun M2 a b => hq M2 (lf_kc h a b).1 (lf_kc h a b).2)
theorem lr_forget {K : sg_K} {E : sg_E} {P : Option sg_K}  : lf_R mX12_forget [] K E P ((kf_forget K).1) (kf_forget K).2 E P := fun M Q hI h hc hq => R_forget (d := 14) h.1 (fun M2 a b => hq M2 (lf_kr hI h hc a b))
theorem lc_lone {K : sg_K} {E : sg_E} {P : Option sg_K} {x : Int32} : lf_C mX11_lone [.int x] K E P ((kf_lone K x)) K E P := fun M Q h hq => C_lone (d := 10) h.2.2.1 (fun M2 f => hq M2 (lf_nc h f).1 (lf_nc h f).2)
theorem lr_lone {K : sg_K} {E : sg_E} {P : Option sg_K} {x : Int32} : lf_R mX12_lone [.int x] K E P ((kf_lone K x)) K E P := fun M Q hI h hc hq => R_lone (d := 14) h.1 (hq M ⟨hI, h, hc⟩)
theorem lc_liar {K : sg_K} {E : sg_E} {P : Option sg_K}  : lf_C mX11_liar [] K E P ((kf_liar K)) K E P := fun M Q h hq => C_liar (d := 10) h.2.2.1 (fun M2 f => hq M2 (lf_nc h f).1 (lf_nc h f).2)
theorem lr_liar {K : sg_K} {E : sg_E} {P : Option sg_K}  : lf_R mX12_liar [] K E P ((kf_liar K)) K E P := fun M Q hI h hc hq => R_liar (d := 14) h.1 (hq M ⟨hI, h, hc⟩)
theorem lc_seed {K : sg_K} {E : sg_E} {P : Option sg_K} {v : Int32} : lf_C mX11_seed [.int v] K E P ((kf_seed K v).1) (kf_seed K v).2 E P := fun M Q h hq => C_seed (d := 14) h.2.2.1 (fun M2 a b => hq M2 (lf_kc h a b).1 (lf_kc h a b).2)
theorem lr_seed {K : sg_K} {E : sg_E} {P : Option sg_K} {v : Int32} : lf_R mX12_seed [.int v] K E P ((kf_seed K v).1) (kf_seed K v).2 E P := fun M Q hI h hc hq => R_seed (d := 14) h.1 (fun M2 a b => hq M2 (lf_kr hI h hc a b))
theorem lc_lot {K : sg_K} {E : sg_E} {P : Option sg_K}  : lf_C mX11_lot [] K E P ((kf_lot K).1) (kf_lot K).2 E P := fun M Q h hq => C_lot (d := 9) h.2.2.1 (fun M2 a b => hq M2 (lf_kc h a b).1 (lf_kc h a b).2)
theorem lr_lot {K : sg_K} {E : sg_E} {P : Option sg_K}  : lf_R mX12_lot [] K E P ((kf_lot K).1) (kf_lot K).2 E P := fun M Q hI h hc hq => R_lot (d := 9) h.1 (fun M2 a b => hq M2 (lf_kr hI h hc a b))
theorem lc_times {K : sg_K} {E : sg_E} {P : Option sg_K} {n : Int32} {v : Int32} : lf_C mX11_times [.int n, .int v] K E P ((kf_times K n v).1) (kf_times K n v).2 E P := fun M Q h hq => C_times (d := 8) h.2.2.1 (fun M2 a b => hq M2 (lf_kc h a b).1 (lf_kc h a b).2)
theorem lr_times {K : sg_K} {E : sg_E} {P : Option sg_K} {n : Int32} {v : Int32} : lf_R mX12_times [.int n, .int v] K E P ((kf_times K n v).1) (kf_times K n v).2 E P := fun M Q hI h hc hq => R_times (d := 8) h.1 (fun M2 a b => hq M2 (lf_kr hI h hc a b))
theorem lc_prove {K : sg_K} {E : sg_E} {P : Option sg_K} {n : Int32} : lf_C mX11_prove [.int n] K E P ((ef_prove K E n).1) K (ef_prove K E n).2 P := fun M Q h hq => C_prove (d := 3) h.2.2.1 h.2.2.2.1 h.1 (fun M2 a b f => hq M2 (lf_pc h a b f).1 (lf_pc h a b f).2)
theorem lr_prove {K : sg_K} {E : sg_E} {P : Option sg_K} {n : Int32} : lf_R mX12_prove [.int n] K E P ((ef_prove K E n).1) K (ef_prove K E n).2 P := fun M Q hI h hc hq => R_prove (d := 6) h.1 h.2.1 hI (fun M2 a b f => hq M2 (lf_pr (eI_prove hI) h hc a b f))
theorem lc_row {K : sg_K} {E : sg_E} {P : Option sg_K} {k : Int32} {x : Int32} : lf_C mX11_row [.int k, .int x] K E P ((ef_row E k x).1) K (ef_row E k x).2 P := fun M Q h hq => C_row (d := 15) h.2.2.2.1 h.1 (fun M2 a b => hq M2 (lf_ec h a b).1 (lf_ec h a b).2)
theorem lr_row {K : sg_K} {E : sg_E} {P : Option sg_K} {k : Int32} {x : Int32} : lf_R mX12_row [.int k, .int x] K E P ((ef_row E k x).1) K (ef_row E k x).2 P := fun M Q hI h hc hq => R_row (d := 15) h.2.1 hI (fun M2 a b => hq M2 (lf_er (hI) h hc a b))
theorem lc_alterRow {K : sg_K} {E : sg_E} {P : Option sg_K} {k : Int32} {x : Int32} {v : Int32} : lf_C mX11_alterRow [.int k, .int x, .int v] K E P ((ef_alter E k x v).1) K (ef_alter E k x v).2 P := fun M Q h hq => C_alterRow (d := 15) h.2.2.2.1 h.1 (fun M2 a b => hq M2 (lf_ec h a b).1 (lf_ec h a b).2)
theorem lr_alterRow {K : sg_K} {E : sg_E} {P : Option sg_K} {k : Int32} {x : Int32} {v : Int32} : lf_R mX12_alterRow [.int k, .int x, .int v] K E P ((ef_alter E k x v).1) K (ef_alter E k x v).2 P := fun M Q hI h hc hq => R_alterRow (d := 15) h.2.1 hI (fun M2 a b => hq M2 (lf_er (eI_alter hI) h hc a b))
theorem lc_judge {K : sg_K} {E : sg_E} {P : Option sg_K}  : lf_C mX11_judge [] K E P ((nI (sg_jd K.2.1 E (tN (E 0)) 0 K.1))) K E P := fun M Q h hq => C_judge (d := 8) h.2.2.1 h.2.2.2.1 h.1 (fun M2 f => hq M2 (lf_nc h f).1 (lf_nc h f).2)
theorem lr_judge {K : sg_K} {E : sg_E} {P : Option sg_K}  : lf_R mX12_judge [] K E P ((nI (sg_jd K.2.1 E (tN (E 0)) 0 K.1))) K E P := fun M Q hI h hc hq => R_judge (d := 8) h.1 h.2.1 hI (fun M2 f => hq M2 (lf_nr hI h hc f))
theorem lc_sheet {K : sg_K} {E : sg_E} {P : Option sg_K} {s : Int32} {t : Int32} {n : Int32} : lf_C mX11_sheet [.int s, .int t, .int n] K E P ((ef_sheet E s t n).1) K (ef_sheet E s t n).2 P := fun M Q h hq => C_sheet (d := 15) h.2.2.2.1 h.1 (fun M2 a b => hq M2 (lf_ec h a b).1 (lf_ec h a b).2)
theorem lr_sheet {K : sg_K} {E : sg_E} {P : Option sg_K} {s : Int32} {t : Int32} {n : Int32} : lf_R mX12_sheet [.int s, .int t, .int n] K E P ((ef_sheet E s t n).1) K (ef_sheet E s t n).2 P := fun M Q hI h hc hq => R_sheet (d := 15) h.2.1 hI (fun M2 a b => hq M2 (lf_er (eI_sheet hI) h hc a b))
theorem lc_write {K : sg_K} {E : sg_E} {P : Option sg_K} {s : Int32} {i : Int32} {v : Int32} : lf_C mX11_write [.int s, .int i, .int v] K E P ((ef_write E s i v).1) K (ef_write E s i v).2 P := fun M Q h hq => C_write (d := 15) h.2.2.2.1 h.1 (fun M2 a b => hq M2 (lf_ec h a b).1 (lf_ec h a b).2)
theorem lr_write {K : sg_K} {E : sg_E} {P : Option sg_K} {s : Int32} {i : Int32} {v : Int32} : lf_R mX12_write [.int s, .int i, .int v] K E P ((ef_write E s i v).1) K (ef_write E s i v).2 P := fun M Q hI h hc hq => R_write (d := 15) h.2.1 hI (fun M2 a b => hq M2 (lf_er (eI_write hI) h hc a b))
theorem lc_item {K : sg_K} {E : sg_E} {P : Option sg_K} {s : Int32} {t : Int32} {i : Int32} : lf_C mX11_item [.int s, .int t, .int i] K E P ((ef_item E s t i).1) K (ef_item E s t i).2 P := fun M Q h hq => C_item (d := 15) h.2.2.2.1 h.1 (fun M2 a b => hq M2 (lf_ec h a b).1 (lf_ec h a b).2)
theorem lr_item {K : sg_K} {E : sg_E} {P : Option sg_K} {s : Int32} {t : Int32} {i : Int32} : lf_R mX12_item [.int s, .int t, .int i] K E P ((ef_item E s t i).1) K (ef_item E s t i).2 P := fun M Q hI h hc hq => R_item (d := 15) h.2.1 hI (fun M2 a b => hq M2 (lf_er (hI) h hc a b))
theorem lc_goAll {K : sg_K} {E : sg_E} {P : Option sg_K} {s : Int32} {i : Int32} {n : Int32} : lf_C mX11_goAll [.int s, .int i, .int n] K E P ((kf_goAll K E s i n).1) (kf_goAll K E s i n).2 E P := fun M Q h hq => C_goAll (d := 8) h.2.2.1 h.2.2.2.1 h.1 (fun M2 a b => hq M2 (lf_kc h a b).1 (lf_kc h a b).2)
theorem lr_goAll {K : sg_K} {E : sg_E} {P : Option sg_K} {s : Int32} {i : Int32} {n : Int32} : lf_R mX12_goAll [.int s, .int i, .int n] K E P ((kf_goAll K E s i n).1) (kf_goAll K E s i n).2 E P := fun M Q hI h hc hq => R_goAll (d := 8) h.1 h.2.1 hI (fun M2 a b => hq M2 (lf_kr hI h hc a b))
theorem lc_wouldBe {K : sg_K} {E : sg_E} {P : Option sg_K} {s : Int32} {i : Int32} {n : Int32} : lf_C mX11_wouldBe [.int s, .int i, .int n] K E P ((kf_wb K E s i n)) K E P := fun M Q h hq => C_wouldBe (d := 8) h.2.2.1 h.2.2.2.1 h.1 (fun M2 f => hq M2 (lf_nc h f).1 (lf_nc h f).2)
theorem lr_wouldBe {K : sg_K} {E : sg_E} {P : Option sg_K} {s : Int32} {i : Int32} {n : Int32} : lf_R mX12_wouldBe [.int s, .int i, .int n] K E P ((kf_wb K E s i n)) K E P := fun M Q hI h hc hq => R_wouldBe (d := 8) h.1 h.2.1 hI (fun M2 f => hq M2 (lf_nr hI h hc f))
theorem lc_shelf {K : sg_K} {E : sg_E} {P : Option sg_K} {s : Int32} {x : Int32} {n : Int32} : lf_C mX11_shelf [.int s, .int x, .int n] K E P ((ef_shelf K E s x n).1) K (ef_shelf K E s x n).2 P := fun M Q h hq => C_shelf (d := 14) h.2.2.1 h.2.2.2.1 h.1 (fun M2 a b => hq M2 (lf_ec h a b).1 (lf_ec h a b).2)
theorem lr_shelf {K : sg_K} {E : sg_E} {P : Option sg_K} {s : Int32} {x : Int32} {n : Int32} : lf_R mX12_shelf [.int s, .int x, .int n] K E P ((ef_shelf K E s x n).1) K (ef_shelf K E s x n).2 P := fun M Q hI h hc hq => R_shelf (d := 14) h.1 h.2.1 hI (fun M2 a b => hq M2 (lf_er (eI_shelf hI) h hc a b))
theorem lc_taken {K : sg_K} {E : sg_E} {P : Option sg_K} {s : Int32} {a : Int32} : lf_C mX11_taken [.int s, .int a] K E P ((ef_taken K E s a).1) K (ef_taken K E s a).2 P := fun M Q h hq => C_taken (d := 14) h.2.2.1 h.2.2.2.1 h.1 (fun M2 a b => hq M2 (lf_ec h a b).1 (lf_ec h a b).2)
theorem lr_taken {K : sg_K} {E : sg_E} {P : Option sg_K} {s : Int32} {a : Int32} : lf_R mX12_taken [.int s, .int a] K E P ((ef_taken K E s a).1) K (ef_taken K E s a).2 P := fun M Q hI h hc hq => R_taken (d := 14) h.1 h.2.1 hI (fun M2 a b => hq M2 (lf_er (hI) h hc a b))
theorem lc_act {K : sg_K} {E : sg_E} {P : Option sg_K} {s : Int32} {a : Int32} {x : Int32} : lf_C mX11_act [.int s, .int a, .int x] K E P ((ef_act K E s a x).1) K (ef_act K E s a x).2 P := fun M Q h hq => C_act (d := 10) h.2.2.1 h.2.2.2.1 h.1 (fun M2 a b => hq M2 (lf_ec h a b).1 (lf_ec h a b).2)
theorem lr_act {K : sg_K} {E : sg_E} {P : Option sg_K} {s : Int32} {a : Int32} {x : Int32} : lf_R mX12_act [.int s, .int a, .int x] K E P ((ef_act K E s a x).1) K (ef_act K E s a x).2 P := fun M Q hI h hc hq => R_act (d := 10) h.1 h.2.1 hI (fun M2 a b => hq M2 (lf_er (eI_act hI) h hc a b))
theorem lc_trace {K : sg_K} {E : sg_E} {P : Option sg_K} {i : Int32} : lf_C mX11_trace [.int i] K E P ((ef_trace E i).1) K (ef_trace E i).2 P := fun M Q h hq => C_trace (d := 16) h.2.2.2.1 h.1 (fun M2 a b => hq M2 (lf_ec h a b).1 (lf_ec h a b).2)
theorem lr_trace {K : sg_K} {E : sg_E} {P : Option sg_K} {i : Int32} : lf_R mX12_trace [.int i] K E P ((ef_trace E i).1) K (ef_trace E i).2 P := fun M Q hI h hc hq => R_trace (d := 16) h.2.1 hI (fun M2 a b => hq M2 (lf_er (hI) h hc a b))
theorem lc_many {K : sg_K} {E : sg_E} {P : Option sg_K} {x : Int32} : lf_C mX11_many [.int x] K E P ((ef_many K E x).1) K (ef_many K E x).2 P := fun M Q h hq => C_many (d := 15) h.2.2.1 h.2.2.2.1 h.1 (fun M2 a b => hq M2 (lf_ec h a b).1 (lf_ec h a b).2)
theorem lr_many {K : sg_K} {E : sg_E} {P : Option sg_K} {x : Int32} : lf_R mX12_many [.int x] K E P ((ef_many K E x).1) K (ef_many K E x).2 P := fun M Q hI h hc hq => R_many (d := 15) h.1 h.2.1 hI (fun M2 a b => hq M2 (lf_er (hI) h hc a b))
theorem lc_keep {K : sg_K} {E : sg_E} {P : Option sg_K}  : lf_C mX11_keep [] K E P ((nI 1)) K E (some K) := fun M Q h hq => C_keep (d := 14) h.2.2.1 h.2.2.2.2.2 (fun M2 a b g f => hq M2 (lf_tc h a b g f).1 (lf_tc h a b g f).2)
theorem lr_keep {K : sg_K} {E : sg_E} {P : Option sg_K}  : lf_R mX12_keep [] K E P ((nI 1)) K E (some K) := fun M Q hI h hc hq => R_keep (d := 16) h.1 (fun M2 a b f => hq M2 (lf_tr hI h hc a b f))
theorem lc_again {K : sg_K} {E : sg_E} {P : Option sg_K}  : lf_C mX11_again [] K E P ((kf_again K P).1) (kf_again K P).2 E P := fun M Q h hq => C_again (d := 14) h.2.2.1 h.2.2.2.2.1 h.2.2.2.2.2 (fun M2 a b g f => hq M2 (lf_ac h a b g f).1 (lf_ac h a b g f).2)
theorem lr_again {K : sg_K} {E : sg_E} {P : Option sg_K}  : lf_R mX12_again [] K E P ((kf_again K P).1) (kf_again K P).2 E P := fun M Q hI h hc hq => R_again (d := 16) h.1 h.2.2 (fun M2 a b => hq M2 (lf_kr hI h hc a b))
