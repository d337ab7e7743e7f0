/-! ===== the component's rows, sheets, shelves, trace, tape ===== -/
def cE1 (E : sg_E) (M : dk_Mem) : Prop := M.1 0 10 = E 0 ∧ ∀ k, k < tN (E 0) → ∀ w, w < 3 → M.1 (91 + k) w = E (1 + (3 * k + w))
def cE2 (E : sg_E) (M : dk_Mem) : Prop := ∀ s, s < 4 → M.1 95 s = E (20 + s) ∧ M.1 96 s = E (24 + s) ∧ ∀ i, i < 40 → M.1 (98 + s) i = E (300 + (40 * s + i))
def eH (E : sg_E) (s : Nat) : Int32 := if E (28 + s) = 0 then 0 else if E (28 + s) = nI 1 then nI 10 + E (32 + s) else -1
def cE3 (E : sg_E) (M : dk_Mem) : Prop := ∀ s, s < 4 → M.1 102 s = eH E s ∧ (E (28 + s) = 0 → M.1 103 s = E (32 + s)) ∧ (E (28 + s) = nI 1 → M.1 103 s = E (36 + s))
def cE4 (E : sg_E) (M : dk_Mem) : Prop := (M.1 0 16 = -1 ∧ E 40 = 0) ∨ ∃ κ, κ < 6 ∧ M.1 0 16 = nI (2 + 2 * κ) ∧ M.1 (2 + 2 * κ) 1 = E 40 ∧ ∀ i, i < tN (E 40) → M.1 (3 + 2 * κ) i = E (41 + i)
def cE5 (E : sg_E) (M : dk_Mem) : Prop := M.1 0 7 = E 80 ∧ ∀ i, i < tN (E 80) → M.1 81 i = (E (81 + i)).toInt8.toInt32
def cE (E : sg_E) (M : dk_Mem) : Prop := cE1 E M ∧ cE2 E M ∧ cE3 E M ∧ cE4 E M ∧ cE5 E M
theorem cE1.fr {E E' : sg_E} {M M' : dk_Mem} (hI : eI E) (h : cE1 E M) (he : ∀ j, j < 20 → E' j = E j) (hf : ∀ q k, (q = 0 ∧ k = 10) ∨ (91 ≤ q ∧ q ≤ 94) → M'.1 q k = M.1 q k) : cE1 E' M' := by
  have e0_h := he 0 (by omega)
  have h0_h := hI.1.2
  refine ⟨by rw [hf _ _ (by omega), e0_h]; exact h.1, fun k hk w hw => ?_⟩
  rw [e0_h] at hk
  rw [hf _ _ (by omega), he _ (by omega)]
  exact h.2 k hk w hw
theorem cE2.fr {E E' : sg_E} {M M' : dk_Mem} (h : cE2 E M) (he : ∀ j, (20 ≤ j ∧ j < 28) ∨ 300 ≤ j → E' j = E j) (hf : ∀ q k, q = 95 ∨ q = 96 ∨ (98 ≤ q ∧ q ≤ 101) → M'.1 q k = M.1 q k) : cE2 E' M' := fun s hs => by
  obtain ⟨h1_h, h2_h, h3_h⟩ := h s hs
  refine ⟨by rw [hf _ _ (by omega), he _ (by omega)]; exact h1_h, by rw [hf _ _ (by omega), he _ (by omega)]; exact h2_h, fun i hi => by rw [hf _ _ (by omega), he _ (by omega)]; exact h3_h i hi⟩
theorem cE3.fr {E E' : sg_E} {M M' : dk_Mem} (h : cE3 E M) (he : ∀ j, 28 ≤ j ∧ j < 40 → E' j = E j) (hf : ∀ q k, q = 102 ∨ q = 103 → M'.1 q k = M.1 q k) : cE3 E' M' := fun s hs => by
  have h0_h := h s hs
  unfold eH at *
  rw [hf _ _ (by omega), hf _ _ (by omega), he (28 + s) (by omega), he (32 + s) (by omega), he (36 + s) (by omega)]
  exact h0_h
theorem cE4.fr {E E' : sg_E} {M M' : dk_Mem} (hI : eI E) (h : cE4 E M) (he : ∀ j, 40 ≤ j ∧ j < 80 → E' j = E j) (hf : ∀ q k, (q = 0 ∧ k = 16) ∨ (2 ≤ q ∧ q ≤ 13) → M'.1 q k = M.1 q k) : cE4 E' M' := by
  have h0_h := hI.2.2.1.2
  rcases h with h | ⟨κ, h1_h, h2_h, h3_h, h4_h⟩
  · exact Or.inl ⟨by rw [hf _ _ (by omega)]; exact h.1, by rw [he _ (by omega)]; exact h.2⟩
  · refine Or.inr ⟨κ, h1_h, by rw [hf _ _ (by omega)]; exact h2_h, by rw [hf _ _ (by omega), he _ (by omega)]; exact h3_h, fun i hi => ?_⟩
    rw [he 40 (by omega)] at hi
    rw [hf _ _ (by omega), he _ (by omega)]
    exact h4_h i hi
theorem cE5.fr {E E' : sg_E} {M M' : dk_Mem} (hI : eI E) (h : cE5 E M) (he : ∀ j, 80 ≤ j ∧ j < 300 → E' j = E j) (hf : ∀ q k, (q = 0 ∧ k = 7) ∨ q = 81 → M'.1 q k = M.1 q k) : cE5 E' M' := by
  have h0_h := hI.2.2.2.1.2
  refine ⟨by rw [hf _ _ (by omega), he _ (by omega)]; exact h.1, fun i hi => ?_⟩
  rw [he 80 (by omega)] at hi
  rw [hf _ _ (by omega), he _ (by omega)]
  exact h.2 i hi
def cXX (q k : Nat) : Prop := (q = 0 ∧ (k = 7 ∨ k = 10 ∨ k = 16)) ∨ (2 ≤ q ∧ q ≤ 13) ∨ q = 81 ∨ (91 ≤ q ∧ q ≤ 103)
theorem cE.fr {E : sg_E} {M M' : dk_Mem} (hI : eI E) (h : cE E M) {S : Nat → Nat → Prop} (hf : dk_fr S M M') (hS : ∀ q k, S q k → ¬ cXX q k) : cE E M' := by
  have e : ∀ q k, cXX q k → M'.1 q k = M.1 q k := fun q k z => hf.2 q k (fun z2_h => hS q k z2_h z)
  obtain ⟨h1_h, h2_h, h3_h, h4_h, h5_h⟩ := h
  exact ⟨h1_h.fr hI (fun _ _ => rfl) (fun q k z => e q k (by unfold cXX; omega)), h2_h.fr (fun _ _ => rfl) (fun q k z => e q k (by unfold cXX; omega)), h3_h.fr (fun _ _ => rfl) (fun q k z => e q k (by unfold cXX; omega)), h4_h.fr hI (fun _ _ => rfl) (fun q k z => e q k (by unfold cXX; omega)), h5_h.fr hI (fun _ _ => rfl) (fun q k z => e q k (by unfold cXX; omega))⟩
theorem cE.A {E : sg_E} {M M' : dk_Mem} (hI : eI E) (h : cE E M) (hf : dk_fr cA M M') : cE E M' := h.fr hI hf (fun q k z => by unfold cA cN at z; unfold cXX; omega)
theorem cK.X {K : sg_K} {M M' : dk_Mem} (h : cK K M) (hf : dk_fr cXX M M') : cK K M' := by
  obtain ⟨h1_h, h2_h, h3_h, h4_h, h5_h, h6_h, h7_h, β, h8_h, h9_h, h10_h⟩ := h
  refine ⟨h1_h, h2_h.fr hf (fun q k a b z => by unfold cXX at z; omega), h3_h.fr hf (fun q k a z => by unfold cXX at z; omega), ?_, h5_h.fr hf (fun q k a b c z => by unfold cXX at z; omega), ?_, ?_, β, h8_h, ?_, ?_⟩
  · obtain ⟨g, γ, g1_h, g2_h, g3_h, g4_h⟩ := h4_h
    exact ⟨g, γ, g1_h, g2_h, g3_h.fr hf (fun q k a b z => by unfold cXX at z; unfold dk_bo at g2_h; omega), by rw [hf.2 14 13 (fun z => by unfold cXX at z; omega)]; exact g4_h⟩
  · rw [hf.2 14 11 (fun z => by unfold cXX at z; omega)]; exact h6_h
  · rw [hf.2 14 12 (fun z => by unfold cXX at z; omega)]; exact h7_h
  · rw [hf.2 14 13 (fun z => by unfold cXX at z; omega)]; exact h9_h
  · rw [hf.2 β 0 (fun z => by unfold cXX at z; unfold dk_bo at h8_h; omega)]; exact h10_h
/-- a row filled -/
def dk_fl (M : dk_Mem) (p : Nat) (x : Int32) (k : Nat) : dk_Mem := dk_row M p (fun j => if j < k then x else M.1 p j)
theorem dk_fl_0 {M : dk_Mem} {p : Nat} {x : Int32} : dk_fl M p x 0 = M := by
  refine Prod.ext (funext fun q => funext fun j => ?_) rfl
  show (if q = p then (if j < 0 then x else M.1 p j) else M.1 q j) = _
  by_cases e : q = p
  · rw [if_pos e, if_neg (by omega), e]
  · rw [if_neg e]
theorem dk_fl_s {M : dk_Mem} {p k : Nat} {x : Int32} : dk_put (dk_fl M p x k) p k x = dk_fl M p x (k + 1) := by
  refine Prod.ext (funext fun q => funext fun j => ?_) rfl
  show (if q = p ∧ j = k then x else if q = p then (if j < k then x else M.1 p j) else M.1 q j) = if q = p then (if j < k + 1 then x else M.1 p j) else M.1 q j
  by_cases e : q = p
  · rw [if_pos e, if_pos e]
    by_cases e2_h : j < k
    · rw [if_neg (show ¬ (q = p ∧ j = k) by omega), if_pos e2_h, if_pos (show j < k + 1 by omega)]
    · by_cases e3_h : j = k
      · rw [if_pos (show q = p ∧ j = k from ⟨e, e3_h⟩), if_pos (show j < k + 1 by omega)]
      · rw [if_neg (show ¬ (q = p ∧ j = k) by omega), if_neg e2_h, if_neg (show ¬ j < k + 1 by omega)]
  · rw [if_neg (show ¬ (q = p ∧ j = k) by omega), if_neg e, if_neg e]
theorem dk_fl_k {M : dk_Mem} {p q k j : Nat} {x : Int32} (h : q ≠ p) : (dk_fl M p x k).1 q j = M.1 q j := if_neg h
theorem dk_fl_i {M : dk_Mem} {p k j : Nat} {x : Int32} (h : j < k) : (dk_fl M p x k).1 p j = x := by
  show (if p = p then (if j < k then x else M.1 p j) else M.1 p j) = x
  rw [if_pos rfl, if_pos h]
theorem sl_ar : ∀ s, s < 4 → dk_ar (98 + s) 20 40 ∧ dk_ar (91 + s) 20 3 ∧ dk_rf 97 s = some (98 + s) ∧ dk_rf 90 s = some (91 + s) := by
  intro s hs
  rcases (show s = 0 ∨ s = 1 ∨ s = 2 ∨ s = 3 by omega) with rfl | rfl | rfl | rfl
  · exact ⟨pl_98, pl_91, rf_97_0, rf_90_0⟩
  · exact ⟨pl_99, pl_92, rf_97_1, rf_90_1⟩
  · exact ⟨pl_100, pl_93, rf_97_2, rf_90_2⟩
  · exact ⟨pl_101, pl_94, rf_97_3, rf_90_3⟩

set_option maxRecDepth 20000 in
theorem j_fillL {d : Nat} {M : dk_Mem} {Q : Option Value → dk_Mem → Prop} {p N : Nat} (hp : dk_ar p 20 N) (hN : N < 2 ^ 31 - 1) {x : Int32} (hq : Q none (dk_fl M p x N)) : ∀ (n k : Nat), k ≤ N → N - k < n → dk_W d mJ7_fill_53178 5 [some (.ref p), some (.int x), some (.int (nI k)), some (.int (nI N))] [] (dk_fl M p x k) Q := by
  intro n
  induction n with
  | zero => intro k _ h; omega
  | succ n ih =>
    intro k hi hn
    refine w_il2 (n := 6) dJ7_fill_53178_5 rfl ?_
    refine w_il3 (n := 7) dJ7_fill_53178_6 rfl ?_
    refine w_ic_ge (n := 10) 20 dJ7_fill_53178_7 (by decide) rfl (fun z7_h => ?_) (fun z7_h => ?_)
    · skip
      refine w_ret dJ7_fill_53178_20 rfl ?_
      rw [q_le (by omega) (by omega)] at z7_h
      rw [show k = N by omega]
      exact hq
    · skip
      refine w_al0 (n := 11) dJ7_fill_53178_10 rfl ?_
      refine w_il2 (n := 12) dJ7_fill_53178_11 rfl ?_
      refine w_il1 (n := 13) dJ7_fill_53178_12 rfl ?_
      refine i_iast (n := 14) hp (j := k) rfl (by rw [q_le (by omega) (by omega)] at z7_h; omega) (by omega) dJ7_fill_53178_13 rfl ?_
      refine w_inc2 (n := 17) (nI 1) dJ7_fill_53178_14 (by decide) rfl rfl (by decide) ?_
      refine w_goto 5 dJ7_fill_53178_17 (by decide) ?_
      rw [q_le (by omega) (by omega)] at z7_h
      rw [dk_fl_s, nI_add]
      exact ih (k + 1) (by omega) (by omega)

set_option maxRecDepth 20000 in
theorem j_fill {d : Nat} {M : dk_Mem} {Q : Option Value → dk_Mem → Prop} {p N : Nat} (hp : dk_ar p 20 N) (hN : N < 2 ^ 31 - 1) {x : Int32} (hq : Q none (dk_fl M p x N)) : dk_Call d mJ7_fill_53178 [.ref p, .int x] M Q := by
  refine dk_enter [some (.ref p), some (.int x), none, none] (by decide) (fun _ => rfl) (fun _ => Nat.le_of_ble_eq_true rfl) ?_
  refine w_iconst (n := 1) (nI 0) dJ7_fill_53178_0 (by decide) rfl ?_
  refine w_is2 (n := 2) dJ7_fill_53178_1 rfl rfl (by decide) ?_
  refine w_al0 (n := 3) dJ7_fill_53178_2 rfl ?_
  refine w_alen (n := 4) hp (by decide) dJ7_fill_53178_3 rfl ?_
  refine w_is3 (n := 5) dJ7_fill_53178_4 rfl rfl (by decide) ?_
  have h := j_fillL (d := d) hp hN hq (N + 1) 0 (by omega) (by omega)
  rw [dk_fl_0] at h
  exact h

theorem cE2.sheet {E : sg_E} {M : dk_Mem} (h : cE2 E M) {s : Nat} (hs : s < 4) {t n v : Int32} (hv : v = if t < 0 then nI 0 else n) : cE2 (eS E s t n) (dk_fl (dk_put (dk_put M 95 s t) 96 s v) (98 + s) (nI 0) 40) := fun a ha => by
  obtain ⟨h1_h, h2_h, h3_h⟩ := h a ha
  refine ⟨?_, ?_, fun i hi => ?_⟩
  · rw [dk_fl_k (by omega), dk_put_k (by omega)]
    unfold eS
    by_cases e : a = s
    · rw [e, dk_put_s, if_pos rfl]
    · rw [dk_put_k (by omega), if_neg (show ¬ 20 + a = 20 + s by omega), if_neg (show ¬ 20 + a = 24 + s by omega), if_neg (show ¬ (300 + 40 * s ≤ 20 + a ∧ 20 + a < 340 + 40 * s) by omega)]; exact h1_h
  · rw [dk_fl_k (by omega)]
    unfold eS
    by_cases e : a = s
    · rw [e, dk_put_s, if_neg (show ¬ 24 + s = 20 + s by omega), if_pos rfl]; exact hv
    · rw [dk_put_k (by omega), dk_put_k (by omega), if_neg (show ¬ 24 + a = 20 + s by omega), if_neg (show ¬ 24 + a = 24 + s by omega), if_neg (show ¬ (300 + 40 * s ≤ 24 + a ∧ 24 + a < 340 + 40 * s) by omega)]; exact h2_h
  · unfold eS
    rw [if_neg (show ¬ 300 + (40 * a + i) = 20 + s by omega), if_neg (show ¬ 300 + (40 * a + i) = 24 + s by omega)]
    by_cases e : a = s
    · rw [e, dk_fl_i hi, if_pos (by omega)]; rfl
    · rw [dk_fl_k (by omega), dk_put_k (by omega), dk_put_k (by omega), if_neg (show ¬ (300 + 40 * s ≤ 300 + (40 * a + i) ∧ 300 + (40 * a + i) < 340 + 40 * s) by omega)]; exact h3_h i hi
theorem cE.sheet {E : sg_E} {M : dk_Mem} (hI : eI E) (h : cE E M) {s : Nat} (hs : s < 4) {t n v : Int32} (hv : v = if t < 0 then nI 0 else n) : cE (eS E s t n) (dk_fl (dk_put (dk_put M 95 s t) 96 s v) (98 + s) (nI 0) 40) := by
  have ee : ∀ j, (j < 20 ∨ (28 ≤ j ∧ j < 300)) → eS E s t n j = E j := fun j hj => by
    unfold eS
    rw [if_neg (by omega), if_neg (by omega), if_neg (by omega)]
  have em : ∀ q k, q ≠ 95 → q ≠ 96 → q ≠ 98 + s → (dk_fl (dk_put (dk_put M 95 s t) 96 s v) (98 + s) (nI 0) 40).1 q k = M.1 q k := fun q k a b c => by rw [dk_fl_k c, dk_put_k (by omega), dk_put_k (by omega)]
  exact ⟨h.1.fr hI (fun j hj => ee j (by omega)) (fun q k z => em q k (by omega) (by omega) (by omega)), h.2.1.sheet hs hv, h.2.2.1.fr (fun j hj => ee j (by omega)) (fun q k z => em q k (by omega) (by omega) (by omega)), h.2.2.2.1.fr hI (fun j hj => ee j (by omega)) (fun q k z => em q k (by omega) (by omega) (by omega)), h.2.2.2.2.fr hI (fun j hj => ee j (by omega)) (fun q k z => em q k (by omega) (by omega) (by omega))⟩
theorem fX_sheet {M : dk_Mem} {s : Nat} (hs : s < 4) {t v x : Int32} : dk_fr cXX M (dk_fl (dk_put (dk_put M 95 s t) 96 s v) (98 + s) x 40) := ⟨rfl, fun q k hn => by
  rw [dk_fl_k (fun z => hn (by unfold cXX; omega)), dk_put_k (fun z => hn (by unfold cXX; omega)), dk_put_k (fun z => hn (by unfold cXX; omega))]⟩
/-- sorts: none, or below 5 -/
theorem q_srt {t : Int32} (h1_h : -1 ≤ t) (h2_h : t ≤ nI 4) : (t = -1 ∧ t < 0) ∨ (t ≠ -1 ∧ 0 ≤ t ∧ ¬ t < 0) := by
  by_cases e : t = -1
  · subst e; exact Or.inl ⟨rfl, by decide⟩
  · refine Or.inr ⟨e, ?_⟩
    have h3_h : 0 ≤ t := by
      have a1_h := Int32.le_iff_toInt_le.mp h1_h
      have a2_h : t.toInt ≠ (-1 : Int32).toInt := fun z => e (Int32.toInt_inj.mp z)
      have a3_h : (-1 : Int32).toInt = -1 := by decide
      apply Int32.le_iff_toInt_le.mpr
      have a4_h : (0 : Int32).toInt = 0 := by decide
      omega
    exact ⟨h3_h, Int32.not_lt.mpr h3_h⟩
theorem eI.srt {E : sg_E} (hI : eI E) {s : Nat} (hs : s < 4) : (E (20 + s) = -1 ∧ E (20 + s) < 0) ∨ (E (20 + s) ≠ -1 ∧ 0 ≤ E (20 + s) ∧ ¬ E (20 + s) < 0) := by
  rcases (hI.2.1 s hs).1 with e | e
  · rw [e]; exact Or.inl ⟨rfl, by decide⟩
  · refine q_srt ?_ ?_
    · rw [e.1]; exact Int32.le_trans (show -1 ≤ nI 0 by decide) (nI_le (by omega) (by have := e.2; omega))
    · rw [e.1]; exact nI_le e.2 (by decide)

set_option maxRecDepth 20000 in
theorem C_sheet {d : Nat} {M : dk_Mem} {Q : Option Value → dk_Mem → Prop} {E : sg_E} (hE : cE E M) (hI : eI E) {s t n : Int32} (hq : ∀ M2, cE (ef_sheet E s t n).2 M2 → dk_fr cXX M M2 → Q (some (.int (ef_sheet E s t n).1)) M2) : dk_Call (d + 2) mX11_sheet [.ref 0, .int s, .int t, .int n] M Q := by
  refine dk_enter [some (.ref 0), some (.int s), some (.int t), some (.int n)] (by decide) (fun _ => rfl) (fun _ => Nat.le_of_ble_eq_true rfl) ?_
  refine w_il1 (n := 1) dX11_sheet_0 rfl ?_
  refine w_iconst (n := 2) (nI 0) dX11_sheet_1 (by decide) rfl ?_
  refine w_iconst (n := 3) (nI 3) dX11_sheet_2 (by decide) rfl ?_
  refine w_cS3 (n := 6) s0_X11_within k_X11_112 (Nat.le_of_ble_eq_true rfl) dX11_sheet_3 rfl (c_within (fun t3_h => ?_) (fun t3_h => ?_))
  · skip
    refine w_if_eq (n := 9) 18 dX11_sheet_6 (by decide) rfl (fun h => absurd h (by decide)) (fun _ => ?_)
    refine w_il2 (n := 10) dX11_sheet_9 rfl ?_
    refine w_iconst (n := 11) (-1) dX11_sheet_10 (by decide) rfl ?_
    refine w_iconst (n := 12) (nI 4) dX11_sheet_11 (by decide) rfl ?_
    refine w_cS3 (n := 15) s0_X11_within k_X11_112 (Nat.le_of_ble_eq_true rfl) dX11_sheet_12 rfl (c_within (fun t12_h => ?_) (fun t12_h => ?_))
    · skip
      refine w_if_ne (n := 18) 20 dX11_sheet_15 (by decide) rfl (fun _ => ?_) (fun h => absurd h (by decide))
      have hs := tN_of (n := 3) (by decide) t3_h.1 t3_h.2
      have hx := hs.1
      have hx2_h := hs.2
      have ht := q_srt t12_h.1 t12_h.2
      have sl := sl_ar (tN s) (by omega)
      refine w_il2 (n := 21) dX11_sheet_20 rfl ?_
      refine w_iconst (n := 22) (-1) dX11_sheet_21 (by decide) rfl ?_
      refine w_ic_eq (n := 25) 40 dX11_sheet_22 (by decide) rfl (fun z22_h => ?_) (fun z22_h => ?_)
      · skip
        refine w_al0 (n := 41) dX11_sheet_40 rfl ?_
        refine g_R (n := 44) f_X11_86_11 pl_0 rf_0_11 dX11_sheet_41 rfl ?_
        refine w_il1 (n := 45) dX11_sheet_44 rfl ?_
        refine w_il2 (n := 46) dX11_sheet_45 rfl ?_
        refine i_iast (n := 47) pl_95 (j := tN s) hs.1 (by omega) (by decide) dX11_sheet_46 rfl ?_
        refine w_al0 (n := 48) dX11_sheet_47 rfl ?_
        refine g_R (n := 51) f_X11_90_11 pl_0 rf_0_12 dX11_sheet_48 rfl ?_
        refine w_il1 (n := 52) dX11_sheet_51 rfl ?_
        refine w_il2 (n := 53) dX11_sheet_52 rfl ?_
        refine w_iconst (n := 54) (-1) dX11_sheet_53 (by decide) rfl ?_
        refine w_ic_ne (n := 57) 61 dX11_sheet_54 (by decide) rfl (fun z54_h => ?_) (fun z54_h => ?_)
        · skip
          refine w_il3 (n := 62) dX11_sheet_61 rfl ?_
          refine i_iast (n := 63) pl_96 (j := tN s) hs.1 (by omega) (by decide) dX11_sheet_62 rfl ?_
          refine w_al0 (n := 64) dX11_sheet_63 rfl ?_
          refine g_R (n := 67) f_X11_93_11 pl_0 rf_0_13 dX11_sheet_64 rfl ?_
          refine w_il1 (n := 68) dX11_sheet_67 rfl ?_
          refine i_aaldI (n := 69) pl_97 (j := tN s) hs.1 (by omega) (by decide) sl.2.2.1 dX11_sheet_68 rfl ?_
          refine w_iconst (n := 70) (nI 0) dX11_sheet_69 (by decide) rfl ?_
          refine w_cS2 (n := 73) s0_J7_fill_53178 k_X11_106 (Nat.le_of_ble_eq_true rfl) dX11_sheet_70 rfl (j_fill sl.1 (by decide) ?_)
          refine w_iconst (n := 74) (nI 1) dX11_sheet_73 (by decide) rfl ?_
          refine w_retI dX11_sheet_74 rfl ?_
          have c1_h : ¬ (0 ≤ t ∧ nI 40 < n) ∧ ¬ (0 ≤ t ∧ n < 0) := by
            rcases ht with z | z
            · exact ⟨fun y => absurd z.2 (Int32.not_lt.mpr y.1), fun y => absurd z.2 (Int32.not_lt.mpr y.1)⟩
            · first | exact absurd z22_h z.1 | exact ⟨fun y => absurd y.2 (Int32.not_lt.mpr z28_h), fun y => absurd y.2 (Int32.not_lt.mpr z34_h)⟩
          refine dk_fin hq (by unfold ef_sheet; rw [if_pos ⟨t3_h, t12_h, c1_h.1⟩]; exact if_neg c1_h.2) (hE.sheet hI (by omega) ?_) (fX_sheet (by omega))
          rcases ht with z | z
          · first | exact absurd z.1 z54_h | (rw [if_pos z.2])
          · first | exact absurd z54_h z.1 | (rw [if_neg z.2.2])
        · skip
          refine w_iconst (n := 58) (nI 0) dX11_sheet_57 (by decide) rfl ?_
          refine w_goto 62 dX11_sheet_58 (by decide) ?_
          refine i_iast (n := 63) pl_96 (j := tN s) hs.1 (by omega) (by decide) dX11_sheet_62 rfl ?_
          refine w_al0 (n := 64) dX11_sheet_63 rfl ?_
          refine g_R (n := 67) f_X11_93_11 pl_0 rf_0_13 dX11_sheet_64 rfl ?_
          refine w_il1 (n := 68) dX11_sheet_67 rfl ?_
          refine i_aaldI (n := 69) pl_97 (j := tN s) hs.1 (by omega) (by decide) sl.2.2.1 dX11_sheet_68 rfl ?_
          refine w_iconst (n := 70) (nI 0) dX11_sheet_69 (by decide) rfl ?_
          refine w_cS2 (n := 73) s0_J7_fill_53178 k_X11_106 (Nat.le_of_ble_eq_true rfl) dX11_sheet_70 rfl (j_fill sl.1 (by decide) ?_)
          refine w_iconst (n := 74) (nI 1) dX11_sheet_73 (by decide) rfl ?_
          refine w_retI dX11_sheet_74 rfl ?_
          have c1_h : ¬ (0 ≤ t ∧ nI 40 < n) ∧ ¬ (0 ≤ t ∧ n < 0) := by
            rcases ht with z | z
            · exact ⟨fun y => absurd z.2 (Int32.not_lt.mpr y.1), fun y => absurd z.2 (Int32.not_lt.mpr y.1)⟩
            · first | exact absurd z22_h z.1 | exact ⟨fun y => absurd y.2 (Int32.not_lt.mpr z28_h), fun y => absurd y.2 (Int32.not_lt.mpr z34_h)⟩
          refine dk_fin hq (by unfold ef_sheet; rw [if_pos ⟨t3_h, t12_h, c1_h.1⟩]; exact if_neg c1_h.2) (hE.sheet hI (by omega) ?_) (fX_sheet (by omega))
          rcases ht with z | z
          · first | exact absurd z.1 z54_h | (rw [if_pos z.2])
          · first | exact absurd z54_h z.1 | (rw [if_neg z.2.2])
      · skip
        refine w_il3 (n := 26) dX11_sheet_25 rfl ?_
        refine w_bipush (n := 28) (nI 40) dX11_sheet_26 (by decide) rfl ?_
        refine w_ic_le (n := 31) 33 dX11_sheet_28 (by decide) rfl (fun z28_h => ?_) (fun z28_h => ?_)
        · skip
          refine w_il3 (n := 34) dX11_sheet_33 rfl ?_
          refine w_if_ge (n := 37) 40 dX11_sheet_34 (by decide) rfl (fun z34_h => ?_) (fun z34_h => ?_)
          · skip
            refine w_al0 (n := 41) dX11_sheet_40 rfl ?_
            refine g_R (n := 44) f_X11_86_11 pl_0 rf_0_11 dX11_sheet_41 rfl ?_
            refine w_il1 (n := 45) dX11_sheet_44 rfl ?_
            refine w_il2 (n := 46) dX11_sheet_45 rfl ?_
            refine i_iast (n := 47) pl_95 (j := tN s) hs.1 (by omega) (by decide) dX11_sheet_46 rfl ?_
            refine w_al0 (n := 48) dX11_sheet_47 rfl ?_
            refine g_R (n := 51) f_X11_90_11 pl_0 rf_0_12 dX11_sheet_48 rfl ?_
            refine w_il1 (n := 52) dX11_sheet_51 rfl ?_
            refine w_il2 (n := 53) dX11_sheet_52 rfl ?_
            refine w_iconst (n := 54) (-1) dX11_sheet_53 (by decide) rfl ?_
            refine w_ic_ne (n := 57) 61 dX11_sheet_54 (by decide) rfl (fun z54_h => ?_) (fun z54_h => ?_)
            · skip
              refine w_il3 (n := 62) dX11_sheet_61 rfl ?_
              refine i_iast (n := 63) pl_96 (j := tN s) hs.1 (by omega) (by decide) dX11_sheet_62 rfl ?_
              refine w_al0 (n := 64) dX11_sheet_63 rfl ?_
              refine g_R (n := 67) f_X11_93_11 pl_0 rf_0_13 dX11_sheet_64 rfl ?_
              refine w_il1 (n := 68) dX11_sheet_67 rfl ?_
              refine i_aaldI (n := 69) pl_97 (j := tN s) hs.1 (by omega) (by decide) sl.2.2.1 dX11_sheet_68 rfl ?_
              refine w_iconst (n := 70) (nI 0) dX11_sheet_69 (by decide) rfl ?_
              refine w_cS2 (n := 73) s0_J7_fill_53178 k_X11_106 (Nat.le_of_ble_eq_true rfl) dX11_sheet_70 rfl (j_fill sl.1 (by decide) ?_)
              refine w_iconst (n := 74) (nI 1) dX11_sheet_73 (by decide) rfl ?_
              refine w_retI dX11_sheet_74 rfl ?_
              have c1_h : ¬ (0 ≤ t ∧ nI 40 < n) ∧ ¬ (0 ≤ t ∧ n < 0) := by
                rcases ht with z | z
                · exact ⟨fun y => absurd z.2 (Int32.not_lt.mpr y.1), fun y => absurd z.2 (Int32.not_lt.mpr y.1)⟩
                · first | exact absurd z22_h z.1 | exact ⟨fun y => absurd y.2 (Int32.not_lt.mpr z28_h), fun y => absurd y.2 (Int32.not_lt.mpr z34_h)⟩
              refine dk_fin hq (by unfold ef_sheet; rw [if_pos ⟨t3_h, t12_h, c1_h.1⟩]; exact if_neg c1_h.2) (hE.sheet hI (by omega) ?_) (fX_sheet (by omega))
              rcases ht with z | z
              · first | exact absurd z.1 z54_h | (rw [if_pos z.2])
              · first | exact absurd z54_h z.1 | (rw [if_neg z.2.2])
            · skip
              refine w_iconst (n := 58) (nI 0) dX11_sheet_57 (by decide) rfl ?_
              refine w_goto 62 dX11_sheet_58 (by decide) ?_
              refine i_iast (n := 63) pl_96 (j := tN s) hs.1 (by omega) (by decide) dX11_sheet_62 rfl ?_
              refine w_al0 (n := 64) dX11_sheet_63 rfl ?_
              refine g_R (n := 67) f_X11_93_11 pl_0 rf_0_13 dX11_sheet_64 rfl ?_
              refine w_il1 (n := 68) dX11_sheet_67 rfl ?_
              refine i_aaldI (n := 69) pl_97 (j := tN s) hs.1 (by omega) (by decide) sl.2.2.1 dX11_sheet_68 rfl ?_
              refine w_iconst (n := 70) (nI 0) dX11_sheet_69 (by decide) rfl ?_
              refine w_cS2 (n := 73) s0_J7_fill_53178 k_X11_106 (Nat.le_of_ble_eq_true rfl) dX11_sheet_70 rfl (j_fill sl.1 (by decide) ?_)
              refine w_iconst (n := 74) (nI 1) dX11_sheet_73 (by decide) rfl ?_
              refine w_retI dX11_sheet_74 rfl ?_
              have c1_h : ¬ (0 ≤ t ∧ nI 40 < n) ∧ ¬ (0 ≤ t ∧ n < 0) := by
                rcases ht with z | z
                · exact ⟨fun y => absurd z.2 (Int32.not_lt.mpr y.1), fun y => absurd z.2 (Int32.not_lt.mpr y.1)⟩
                · first | exact absurd z22_h z.1 | exact ⟨fun y => absurd y.2 (Int32.not_lt.mpr z28_h), fun y => absurd y.2 (Int32.not_lt.mpr z34_h)⟩
              refine dk_fin hq (by unfold ef_sheet; rw [if_pos ⟨t3_h, t12_h, c1_h.1⟩]; exact if_neg c1_h.2) (hE.sheet hI (by omega) ?_) (fX_sheet (by omega))
              rcases ht with z | z
              · first | exact absurd z.1 z54_h | (rw [if_pos z.2])
              · first | exact absurd z54_h z.1 | (rw [if_neg z.2.2])
          · skip
            refine w_bipush (n := 39) (-14) dX11_sheet_37 (by decide) rfl ?_
            refine w_retI dX11_sheet_39 rfl ?_
            have h3_h : 0 ≤ t := by rcases ht with z | z; exact absurd z.1 z22_h; exact z.2.1
            exact dk_fin hq (by unfold ef_sheet; rw [if_pos ⟨t3_h, t12_h, fun z => absurd z.2 (Int32.not_lt.mpr z28_h)⟩]; exact if_pos ⟨h3_h, Int32.not_le.mp z34_h⟩) hE dk_fr.rf
        · skip
          refine w_iconst (n := 32) (-1) dX11_sheet_31 (by decide) rfl ?_
          refine w_retI dX11_sheet_32 rfl ?_
          have h3_h : 0 ≤ t := by rcases ht with z | z; exact absurd z.1 z22_h; exact z.2.1
          exact dk_fin hq (if_neg (fun z => z.2.2 ⟨h3_h, Int32.not_le.mp z28_h⟩)) hE dk_fr.rf
    · skip
      refine w_if_ne (n := 18) 20 dX11_sheet_15 (by decide) rfl (fun h => absurd h (by decide)) (fun _ => ?_)
      refine w_iconst (n := 19) (-1) dX11_sheet_18 (by decide) rfl ?_
      refine w_retI dX11_sheet_19 rfl ?_
      exact dk_fin hq (if_neg (fun z => by first | exact t3_h z.1 | exact t12_h z.2.1)) hE dk_fr.rf
  · skip
    refine w_if_eq (n := 9) 18 dX11_sheet_6 (by decide) rfl (fun _ => ?_) (fun h => absurd (by decide) h)
    refine w_iconst (n := 19) (-1) dX11_sheet_18 (by decide) rfl ?_
    refine w_retI dX11_sheet_19 rfl ?_
    exact dk_fin hq (if_neg (fun z => by first | exact t3_h z.1 | exact t12_h z.2.1)) hE dk_fr.rf

set_option maxRecDepth 20000 in
theorem c_narrowed {d : Nat} {M : dk_Mem} {Q : Option Value → dk_Mem → Prop} {v t : Int32} (hq : Q (some (.int (eW t v))) M) : dk_Call d mX11_narrowed [.int v, .int t] M Q := by
  refine dk_enter [some (.int v), some (.int t)] (by decide) (fun _ => rfl) (fun _ => Nat.le_of_ble_eq_true rfl) ?_
  refine w_il1 (n := 1) dX11_narrowed_0 rfl ?_
  by_cases hs1_0 : t = (nI 0)
  · first | subst hs1_0 | rw [hs1_0]
    refine w_tabIn 36 dX11_narrowed_1 (by decide) (by decide) rfl (by decide) ?_
    refine w_il0 (n := 37) dX11_narrowed_36 rfl ?_
    refine w_i2b (n := 38) dX11_narrowed_37 rfl ?_
    refine w_retI dX11_narrowed_38 rfl ?_
    exact hq
  by_cases hs1_1 : t = (nI 1)
  · first | subst hs1_1 | rw [hs1_1]
    refine w_tabIn 39 dX11_narrowed_1 (by decide) (by decide) rfl (by decide) ?_
    refine w_il0 (n := 40) dX11_narrowed_39 rfl ?_
    refine w_i2s (n := 41) dX11_narrowed_40 rfl ?_
    refine w_retI dX11_narrowed_41 rfl ?_
    exact hq
  by_cases hs1_2 : t = (nI 2)
  · first | subst hs1_2 | rw [hs1_2]
    refine w_tabIn 52 dX11_narrowed_1 (by decide) (by decide) rfl (by decide) ?_
    refine w_il0 (n := 53) dX11_narrowed_52 rfl ?_
    refine w_retI dX11_narrowed_53 rfl ?_
    first | exact hq | (have e : eW t v = v := (if_neg hs1_0).trans ((if_neg hs1_1).trans (if_neg hs1_4)); rw [e] at hq; exact hq)
  by_cases hs1_3 : t = (nI 3)
  · first | subst hs1_3 | rw [hs1_3]
    refine w_tabIn 52 dX11_narrowed_1 (by decide) (by decide) rfl (by decide) ?_
    refine w_il0 (n := 53) dX11_narrowed_52 rfl ?_
    refine w_retI dX11_narrowed_53 rfl ?_
    first | exact hq | (have e : eW t v = v := (if_neg hs1_0).trans ((if_neg hs1_1).trans (if_neg hs1_4)); rw [e] at hq; exact hq)
  by_cases hs1_4 : t = (nI 4)
  · first | subst hs1_4 | rw [hs1_4]
    refine w_tabIn 42 dX11_narrowed_1 (by decide) (by decide) rfl (by decide) ?_
    refine w_il0 (n := 43) dX11_narrowed_42 rfl ?_
    refine w_if_eq (n := 46) 50 dX11_narrowed_43 (by decide) rfl (fun z43_h => ?_) (fun z43_h => ?_)
    · skip
      refine w_iconst (n := 51) (nI 0) dX11_narrowed_50 (by decide) rfl ?_
      refine w_retI dX11_narrowed_51 rfl ?_
      first | (have e : eW (nI 4) v = 0 := (show (if v = 0 then (0 : Int32) else 1) = 0 from if_pos z43_h); rw [e] at hq; exact hq) | (have e : eW (nI 4) v = 1 := (show (if v = 0 then (0 : Int32) else 1) = 1 from if_neg z43_h); rw [e] at hq; exact hq)
    · skip
      refine w_iconst (n := 47) (nI 1) dX11_narrowed_46 (by decide) rfl ?_
      refine w_goto 51 dX11_narrowed_47 (by decide) ?_
      refine w_retI dX11_narrowed_51 rfl ?_
      first | (have e : eW (nI 4) v = 0 := (show (if v = 0 then (0 : Int32) else 1) = 0 from if_pos z43_h); rw [e] at hq; exact hq) | (have e : eW (nI 4) v = 1 := (show (if v = 0 then (0 : Int32) else 1) = 1 from if_neg z43_h); rw [e] at hq; exact hq)
  refine w_tabOut 52 dX11_narrowed_1 (dk_out5 hs1_0 hs1_1 hs1_2 hs1_3 hs1_4) (by decide) ?_
  refine w_il0 (n := 53) dX11_narrowed_52 rfl ?_
  refine w_retI dX11_narrowed_53 rfl ?_
  first | exact hq | (have e : eW t v = v := (if_neg hs1_0).trans ((if_neg hs1_1).trans (if_neg hs1_4)); rw [e] at hq; exact hq)

theorem cE.cell {E : sg_E} {M : dk_Mem} (hI : eI E) (h : cE E M) {s i : Nat} (hs : s < 4) (hi : i < 40) {v : Int32} : cE (eU E (300 + (40 * s + i)) v) (dk_put M (98 + s) i v) := by
  have em : ∀ q k, q ≠ 98 + s → (dk_put M (98 + s) i v).1 q k = M.1 q k := fun q k a => dk_put_k (by omega)
  refine ⟨h.1.fr hI (fun j hj => eU_n (by omega)) (fun q k z => em q k (by omega)), fun a ha => ?_, h.2.2.1.fr (fun j hj => eU_n (by omega)) (fun q k z => em q k (by omega)), h.2.2.2.1.fr hI (fun j hj => eU_n (by omega)) (fun q k z => em q k (by omega)), h.2.2.2.2.fr hI (fun j hj => eU_n (by omega)) (fun q k z => em q k (by omega))⟩
  obtain ⟨h1_h, h2_h, h3_h⟩ := h.2.1 a ha
  refine ⟨by rw [em _ _ (by omega), eU_n (by omega)]; exact h1_h, by rw [em _ _ (by omega), eU_n (by omega)]; exact h2_h, fun k hk => ?_⟩
  by_cases e : a = s ∧ k = i
  · rw [e.1, e.2, dk_put_s, eU_s]
  · rw [dk_put_k (by omega), eU_n (by omega)]; exact h3_h k hk

set_option maxRecDepth 20000 in
theorem C_write {d : Nat} {M : dk_Mem} {Q : Option Value → dk_Mem → Prop} {E : sg_E} (hE : cE E M) (hI : eI E) {s i v : Int32} (hq : ∀ M2, cE (ef_write E s i v).2 M2 → dk_fr cXX M M2 → Q (some (.int (ef_write E s i v).1)) M2) : dk_Call (d + 2) mX11_write [.ref 0, .int s, .int i, .int v] M Q := by
  refine dk_enter [some (.ref 0), some (.int s), some (.int i), some (.int v)] (by decide) (fun _ => rfl) (fun _ => Nat.le_of_ble_eq_true rfl) ?_
  refine w_il1 (n := 1) dX11_write_0 rfl ?_
  refine w_iconst (n := 2) (nI 0) dX11_write_1 (by decide) rfl ?_
  refine w_iconst (n := 3) (nI 3) dX11_write_2 (by decide) rfl ?_
  refine w_cS3 (n := 6) s0_X11_within k_X11_112 (Nat.le_of_ble_eq_true rfl) dX11_write_3 rfl (c_within (fun t3_h => ?_) (fun t3_h => ?_))
  · skip
    refine w_if_ne (n := 9) 11 dX11_write_6 (by decide) rfl (fun _ => ?_) (fun h => absurd h (by decide))
    have hs := tN_of (n := 3) (by decide) t3_h.1 t3_h.2
    have hsr := hI.srt (s := tN s) (by omega)
    have sl := sl_ar (tN s) (by omega)
    refine w_al0 (n := 12) dX11_write_11 rfl ?_
    refine g_R (n := 15) f_X11_86_11 pl_0 rf_0_11 dX11_write_12 rfl ?_
    refine w_il1 (n := 16) dX11_write_15 rfl ?_
    refine i_iald (n := 17) pl_95 (j := tN s) hs.1 (by omega) (by decide) (hE.2.1 _ (by omega)).1 dX11_write_16 rfl ?_
    refine w_iconst (n := 18) (-1) dX11_write_17 (by decide) rfl ?_
    refine w_ic_ne (n := 21) 24 dX11_write_18 (by decide) rfl (fun z18_h => ?_) (fun z18_h => ?_)
    · skip
      have c1_h : ¬ E (20 + tN s) < 0 := by rcases hsr with z | z; exact absurd z.1 z18_h; exact z.2.2
      refine w_il2 (n := 25) dX11_write_24 rfl ?_
      refine w_iconst (n := 26) (nI 0) dX11_write_25 (by decide) rfl ?_
      refine w_al0 (n := 27) dX11_write_26 rfl ?_
      refine g_R (n := 30) f_X11_90_11 pl_0 rf_0_12 dX11_write_27 rfl ?_
      refine w_il1 (n := 31) dX11_write_30 rfl ?_
      refine i_iald (n := 32) pl_96 (j := tN s) hs.1 (by omega) (by decide) (hE.2.1 _ (by omega)).2.1 dX11_write_31 rfl ?_
      refine w_iconst (n := 33) (nI 1) dX11_write_32 (by decide) rfl ?_
      refine w_isub (n := 34) dX11_write_33 rfl ?_
      refine w_cS3 (n := 37) s0_X11_within k_X11_112 (Nat.le_of_ble_eq_true rfl) dX11_write_34 rfl (c_within (fun t34_h => ?_) (fun t34_h => ?_))
      · skip
        refine w_if_ne (n := 40) 43 dX11_write_37 (by decide) rfl (fun _ => ?_) (fun h => absurd h (by decide))
        have hi := (hI.2.1 (tN s) (by omega)).2.1.in (by decide) t34_h.1 t34_h.2
        refine w_al0 (n := 44) dX11_write_43 rfl ?_
        refine g_R (n := 47) f_X11_93_11 pl_0 rf_0_13 dX11_write_44 rfl ?_
        refine w_il1 (n := 48) dX11_write_47 rfl ?_
        refine i_aaldI (n := 49) pl_97 (j := tN s) hs.1 (by omega) (by decide) sl.2.2.1 dX11_write_48 rfl ?_
        refine w_il2 (n := 50) dX11_write_49 rfl ?_
        refine w_il3 (n := 51) dX11_write_50 rfl ?_
        refine w_al0 (n := 52) dX11_write_51 rfl ?_
        refine g_R (n := 55) f_X11_86_11 pl_0 rf_0_11 dX11_write_52 rfl ?_
        refine w_il1 (n := 56) dX11_write_55 rfl ?_
        refine i_iald (n := 57) pl_95 (j := tN s) hs.1 (by omega) (by decide) (hE.2.1 _ (by omega)).1 dX11_write_56 rfl ?_
        refine w_cS2 (n := 60) s0_X11_narrowed k_X11_319 (Nat.le_of_ble_eq_true rfl) dX11_write_57 rfl (c_narrowed ?_)
        refine i_iast (n := 61) sl.1 (j := tN i) hi.1 (by omega) (by decide) dX11_write_60 rfl ?_
        refine w_iconst (n := 62) (nI 1) dX11_write_61 (by decide) rfl ?_
        refine w_retI dX11_write_62 rfl ?_
        exact dk_fin hq (by unfold ef_write; rw [if_pos t3_h, if_neg c1_h]; exact if_pos t34_h) (hE.cell hI (by omega) (by omega)) (dk_fr.rf.put (by unfold cXX; omega))
      · skip
        refine w_if_ne (n := 40) 43 dX11_write_37 (by decide) rfl (fun h => absurd h (by decide)) (fun _ => ?_)
        refine w_bipush (n := 42) (-12) dX11_write_40 (by decide) rfl ?_
        refine w_retI dX11_write_42 rfl ?_
        exact dk_fin hq (by unfold ef_write; rw [if_pos t3_h, if_neg c1_h]; exact if_neg t34_h) hE dk_fr.rf
    · skip
      refine w_bipush (n := 23) (-11) dX11_write_21 (by decide) rfl ?_
      refine w_retI dX11_write_23 rfl ?_
      exact dk_fin hq (by unfold ef_write; rw [if_pos t3_h]; exact if_pos (by rcases hsr with z | z; exact z.2; exact absurd z18_h z.1)) hE dk_fr.rf
  · skip
    refine w_if_ne (n := 9) 11 dX11_write_6 (by decide) rfl (fun h => absurd h (by decide)) (fun _ => ?_)
    refine w_iconst (n := 10) (-1) dX11_write_9 (by decide) rfl ?_
    refine w_retI dX11_write_10 rfl ?_
    exact dk_fin hq (if_neg t3_h) hE dk_fr.rf

set_option maxRecDepth 20000 in
theorem C_item {d : Nat} {M : dk_Mem} {Q : Option Value → dk_Mem → Prop} {E : sg_E} (hE : cE E M) (hI : eI E) {s t i : Int32} (hq : ∀ M2, cE (ef_item E s t i).2 M2 → dk_fr cXX M M2 → Q (some (.int (ef_item E s t i).1)) M2) : dk_Call (d + 2) mX11_item [.ref 0, .int s, .int t, .int i] M Q := by
  refine dk_enter [some (.ref 0), some (.int s), some (.int t), some (.int i)] (by decide) (fun _ => rfl) (fun _ => Nat.le_of_ble_eq_true rfl) ?_
  refine w_il1 (n := 1) dX11_item_0 rfl ?_
  refine w_iconst (n := 2) (nI 0) dX11_item_1 (by decide) rfl ?_
  refine w_iconst (n := 3) (nI 3) dX11_item_2 (by decide) rfl ?_
  refine w_cS3 (n := 6) s0_X11_within k_X11_112 (Nat.le_of_ble_eq_true rfl) dX11_item_3 rfl (c_within (fun t3_h => ?_) (fun t3_h => ?_))
  · skip
    refine w_if_eq (n := 9) 18 dX11_item_6 (by decide) rfl (fun h => absurd h (by decide)) (fun _ => ?_)
    refine w_il2 (n := 10) dX11_item_9 rfl ?_
    refine w_iconst (n := 11) (nI 0) dX11_item_10 (by decide) rfl ?_
    refine w_iconst (n := 12) (nI 4) dX11_item_11 (by decide) rfl ?_
    refine w_cS3 (n := 15) s0_X11_within k_X11_112 (Nat.le_of_ble_eq_true rfl) dX11_item_12 rfl (c_within (fun t12_h => ?_) (fun t12_h => ?_))
    · skip
      refine w_if_ne (n := 18) 20 dX11_item_15 (by decide) rfl (fun _ => ?_) (fun h => absurd h (by decide))
      have hs := tN_of (n := 3) (by decide) t3_h.1 t3_h.2
      have hsr := hI.srt (s := tN s) (by omega)
      have sl := sl_ar (tN s) (by omega)
      refine w_al0 (n := 21) dX11_item_20 rfl ?_
      refine g_R (n := 24) f_X11_86_11 pl_0 rf_0_11 dX11_item_21 rfl ?_
      refine w_il1 (n := 25) dX11_item_24 rfl ?_
      refine i_iald (n := 26) pl_95 (j := tN s) hs.1 (by omega) (by decide) (hE.2.1 _ (by omega)).1 dX11_item_25 rfl ?_
      refine w_iconst (n := 27) (-1) dX11_item_26 (by decide) rfl ?_
      refine w_ic_ne (n := 30) 33 dX11_item_27 (by decide) rfl (fun z27_h => ?_) (fun z27_h => ?_)
      · skip
        have c1_h : ¬ E (20 + tN s) < 0 := by rcases hsr with z | z; exact absurd z.1 z27_h; exact z.2.2
        refine w_al0 (n := 34) dX11_item_33 rfl ?_
        refine g_R (n := 37) f_X11_86_11 pl_0 rf_0_11 dX11_item_34 rfl ?_
        refine w_il1 (n := 38) dX11_item_37 rfl ?_
        refine i_iald (n := 39) pl_95 (j := tN s) hs.1 (by omega) (by decide) (hE.2.1 _ (by omega)).1 dX11_item_38 rfl ?_
        refine w_il2 (n := 40) dX11_item_39 rfl ?_
        refine w_ic_eq (n := 43) 46 dX11_item_40 (by decide) rfl (fun z40_h => ?_) (fun z40_h => ?_)
        · skip
          refine w_il3 (n := 47) dX11_item_46 rfl ?_
          refine w_iconst (n := 48) (nI 0) dX11_item_47 (by decide) rfl ?_
          refine w_al0 (n := 49) dX11_item_48 rfl ?_
          refine g_R (n := 52) f_X11_90_11 pl_0 rf_0_12 dX11_item_49 rfl ?_
          refine w_il1 (n := 53) dX11_item_52 rfl ?_
          refine i_iald (n := 54) pl_96 (j := tN s) hs.1 (by omega) (by decide) (hE.2.1 _ (by omega)).2.1 dX11_item_53 rfl ?_
          refine w_iconst (n := 55) (nI 1) dX11_item_54 (by decide) rfl ?_
          refine w_isub (n := 56) dX11_item_55 rfl ?_
          refine w_cS3 (n := 59) s0_X11_within k_X11_112 (Nat.le_of_ble_eq_true rfl) dX11_item_56 rfl (c_within (fun t56_h => ?_) (fun t56_h => ?_))
          · skip
            refine w_if_ne (n := 62) 65 dX11_item_59 (by decide) rfl (fun _ => ?_) (fun h => absurd h (by decide))
            have hi := (hI.2.1 (tN s) (by omega)).2.1.in (by decide) t56_h.1 t56_h.2
            refine w_al0 (n := 66) dX11_item_65 rfl ?_
            refine g_R (n := 69) f_X11_93_11 pl_0 rf_0_13 dX11_item_66 rfl ?_
            refine w_il1 (n := 70) dX11_item_69 rfl ?_
            refine i_aaldI (n := 71) pl_97 (j := tN s) hs.1 (by omega) (by decide) sl.2.2.1 dX11_item_70 rfl ?_
            refine w_il3 (n := 72) dX11_item_71 rfl ?_
            refine i_iald (n := 73) sl.1 (j := tN i) hi.1 (by omega) (by decide) ((hE.2.1 _ (by omega)).2.2 _ (by omega)) dX11_item_72 rfl ?_
            refine w_retI dX11_item_73 rfl ?_
            exact dk_fin hq (congrArg (fun y => (y, E)) ((if_pos ⟨t3_h, t12_h⟩).trans ((if_neg c1_h).trans ((if_pos z40_h).trans (if_pos t56_h))))) hE dk_fr.rf
          · skip
            refine w_if_ne (n := 62) 65 dX11_item_59 (by decide) rfl (fun h => absurd h (by decide)) (fun _ => ?_)
            refine w_bipush (n := 64) (-12) dX11_item_62 (by decide) rfl ?_
            refine w_retI dX11_item_64 rfl ?_
            exact dk_fin hq (congrArg (fun y => (y, E)) ((if_pos ⟨t3_h, t12_h⟩).trans ((if_neg c1_h).trans ((if_pos z40_h).trans (if_neg t56_h))))) hE dk_fr.rf
        · skip
          refine w_bipush (n := 45) (-13) dX11_item_43 (by decide) rfl ?_
          refine w_retI dX11_item_45 rfl ?_
          exact dk_fin hq (congrArg (fun y => (y, E)) ((if_pos ⟨t3_h, t12_h⟩).trans ((if_neg c1_h).trans (if_neg z40_h)))) hE dk_fr.rf
      · skip
        refine w_bipush (n := 32) (-11) dX11_item_30 (by decide) rfl ?_
        refine w_retI dX11_item_32 rfl ?_
        exact dk_fin hq (congrArg (fun y => (y, E)) ((if_pos ⟨t3_h, t12_h⟩).trans (if_pos (by rcases hsr with z | z; exact z.2; exact absurd z27_h z.1)))) hE dk_fr.rf
    · skip
      refine w_if_ne (n := 18) 20 dX11_item_15 (by decide) rfl (fun h => absurd h (by decide)) (fun _ => ?_)
      refine w_iconst (n := 19) (-1) dX11_item_18 (by decide) rfl ?_
      refine w_retI dX11_item_19 rfl ?_
      exact dk_fin hq (congrArg (fun y => (y, E)) (if_neg (fun z => by first | exact t3_h z.1 | exact t12_h z.2))) hE dk_fr.rf
  · skip
    refine w_if_eq (n := 9) 18 dX11_item_6 (by decide) rfl (fun _ => ?_) (fun h => absurd (by decide) h)
    refine w_iconst (n := 19) (-1) dX11_item_18 (by decide) rfl ?_
    refine w_retI dX11_item_19 rfl ?_
    exact dk_fin hq (congrArg (fun y => (y, E)) (if_neg (fun z => by first | exact t3_h z.1 | exact t12_h z.2))) hE dk_fr.rf
