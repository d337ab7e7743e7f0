/-! ===== what stands beside the street stays in its ranges ===== -/
theorem eI.cong {E E' : sg_E} (hI : eI E) (h : ∀ j, j = 0 ∨ (20 ≤ j ∧ j < 36) ∨ j = 40 ∨ (80 ≤ j ∧ j < 281) → E' j = E j) : eI E' := by
  obtain ⟨h1_h, h2_h, h3_h, h4_h, h5_h⟩ := hI
  refine ⟨by rw [h 0 (by omega)]; exact h1_h, fun s hs => ?_, by rw [h 40 (by omega)]; exact h3_h, by rw [h 80 (by omega)]; exact h4_h, fun i hi => by rw [h _ (by omega)]; exact h5_h i hi⟩
  rw [h (20 + s) (by omega), h (24 + s) (by omega), h (28 + s) (by omega), h (32 + s) (by omega)]
  exact h2_h s hs
theorem at_tips_le {h : Nat} {x : Int32} {T : at_T} (hT : T.1 ≤ 30) (k : Nat) : (at_tips h x T k).2.1 ≤ 30 := by
  unfold at_tips
  split
  · exact at_b_le (at_b_le hT)
  · exact at_b_le (at_b_le hT)
  · exact at_b_le hT
theorem at_pt_le {k h r : Nat} {x : Int32} {T : at_T} (hT : T.1 ≤ 30) : (at_pt k h r x T).2.1 ≤ 30 := at_tips_le (at_b_le hT) k
theorem at_taps_le {h r : Nat} {x : Int32} {T : at_T} (hT : T.1 ≤ 30) (k : Nat) : (at_taps h r x T k).2.1 ≤ 30 := by
  unfold at_taps
  split
  · exact at_pt_le (r := r) (at_b_le hT)
  · exact at_pt_le (r := r) (at_b_le hT)
  · exact at_pt_le (r := r) (at_b_le hT)
  · exact at_pt_le (r := r) hT
theorem at_hT_le {p : Bool} {T : at_T} (hT : T.1 ≤ 30) (k : Nat) : (at_hT p T k).1 ≤ 30 := by
  unfold at_hT
  split
  · exact at_b_le (at_b_le hT)
  · cases p
    · exact at_b_le (at_b_le (at_b_le (at_b_le hT)))
    · exact at_b_le (at_b_le (at_b_le hT))
  · exact at_b_le hT
theorem at_uT_le {p : Bool} {h r : Nat} {x : Int32} {T : at_T} (hT : T.1 ≤ 30) (k : Nat) : (at_uT p h r x T k).1 ≤ 30 := at_hT_le (at_taps_le (at_b_le hT) k) k
theorem at_bif {p : Bool} {A B : at_T} (ha : A.1 ≤ 30) (hb : B.1 ≤ 30) : (bif p then A else B).1 ≤ 30 := by
  cases p
  · exact hb
  · exact ha
theorem at_rT_le {p : Bool} {h r : Nat} {x : Int32} {T : at_T} (hT : T.1 ≤ 30) (k : Nat) : (at_rT p h r x T k).1 ≤ 30 := by
  unfold at_rT
  split
  · exact at_bif (at_uT_le (at_b_le hT) 3) (at_taps_le (at_uT_le (at_b_le hT) 3) 3)
  · exact at_uT_le hT _
theorem at_act_le {k h r : Nat} {x a : Int32} {T : at_T} (hT : T.1 ≤ 30) : (at_act k h r x T a).2.1 ≤ 30 := by
  unfold at_act
  split
  · exact at_tips_le hT k
  · split
    · exact at_taps_le hT k
    · split
      · exact at_hT_le hT k
      · exact at_rT_le hT k
theorem eI_act {K : sg_K} {E : sg_E} (hI : eI E) {s a x : Int32} : eI (ef_act K E s a x).2 := by
  unfold ef_act
  split
  · split
    · exact hI.T (Nat.zero_le _)
    · exact hI.T (at_act_le (Nat.zero_le _))
  · exact hI.T (Nat.zero_le _)
theorem eI_feed {E : sg_E} (hI : eI E) {x : Int64} {n : Int32} : eI (ef_feed E x n).2 := by
  unfold ef_feed
  split
  · split
    · exact hI.fd _ (by assumption)
    · exact hI
  · exact hI
theorem eI_80 {E : sg_E} (hI : eI E) : eI (eU E 80 (nI 0)) := by
  obtain ⟨h1_h, h2_h, h3_h, h4_h, h5_h⟩ := hI
  have he : ∀ j, j ≠ 80 → eU E 80 (nI 0) j = E j := fun j hj => if_neg hj
  refine ⟨by rw [he 0 (by omega)]; exact h1_h, fun s hs => ?_, by rw [he 40 (by omega)]; exact h3_h, by rw [show eU E 80 (nI 0) 80 = nI 0 from if_pos rfl]; exact eN_i (by omega) (by decide), fun i hi => by rw [he _ (by omega)]; exact h5_h i hi⟩
  rw [he _ (by omega), he _ (by omega), he _ (by omega), he _ (by omega)]
  exact h2_h s hs
theorem eI_rules {K : sg_K} {E : sg_E} (hI : eI E) : eI (ef_rules K E).2.2 := by
  unfold ef_rules
  split
  · exact eI_80 hI
  · exact eI_80 hI
theorem eI_write {E : sg_E} (hI : eI E) {s i v : Int32} : eI (ef_write E s i v).2 := by
  unfold ef_write
  repeat' split
  all_goals first | exact hI | exact hI.cong (fun j hj => if_neg (by omega))
theorem eI_alter {E : sg_E} (hI : eI E) {k x v : Int32} : eI (ef_alter E k x v).2 := by
  unfold ef_alter
  split
  · rename_i h
    have q1_h := hI.1.in (by decide) h.1.1 h.1.2
    have q2_h := (tN_of (n := 2) (by decide) h.2.1 h.2.2).2
    exact hI.cong (fun j hj => if_neg (by omega))
  · exact hI
theorem eI_prove {K : sg_K} {E : sg_E} (hI : eI E) {n : Int32} : eI (ef_prove K E n).2 := by
  unfold ef_prove
  split
  · rename_i h
    have q1_h := (tN_of (n := 4) (by decide) h.1 h.2).2
    have q2_h := (sg_ys_le (σ := K.1) (n := tN n)).1
    have hp : ∀ j, 20 ≤ j → ePv K.2.1 (K.1 4 + 1) (sg_ys K.1 (tN n)) (sg_fb K (tN n)).2.1 (K.1 4) (sg_ys K.1 (tN n)) 0 K.1 E j = E j := fun j hj => ePv_o hj _ _ _ _ (by omega)
    generalize ePv K.2.1 (K.1 4 + 1) (sg_ys K.1 (tN n)) (sg_fb K (tN n)).2.1 (K.1 4) (sg_ys K.1 (tN n)) 0 K.1 E = F at hp
    obtain ⟨h1_h, h2_h, h3_h, h4_h, h5_h⟩ := hI
    show eI (eU F 0 (nI (sg_ys K.1 (tN n))))
    have he : ∀ j, 20 ≤ j → eU F 0 (nI (sg_ys K.1 (tN n))) j = E j := fun j hj => (if_neg (by omega)).trans (hp j hj)
    refine ⟨?_, fun s hs => ?_, by rw [he 40 (by omega)]; exact h3_h, by rw [he 80 (by omega)]; exact h4_h, fun i hi => by rw [he _ (by omega)]; exact h5_h i hi⟩
    · show eN (eU F 0 (nI (sg_ys K.1 (tN n))) 0) 4
      rw [show eU F 0 (nI (sg_ys K.1 (tN n))) 0 = nI (sg_ys K.1 (tN n)) from if_pos rfl]
      exact eN_i (by omega) (by decide)
    · rw [he _ (by omega), he _ (by omega), he _ (by omega), he _ (by omega)]
      exact h2_h s hs
  · exact hI
theorem eI_sheet {E : sg_E} (hI : eI E) {s t n : Int32} : eI (ef_sheet E s t n).2 := by
  unfold ef_sheet
  split
  · rename_i h
    split
    · exact hI
    · rename_i h2_h
      obtain ⟨hs, ht, hn⟩ := h
      have q1_h := (tN_of (n := 3) (by decide) hs.1 hs.2).2
      obtain ⟨h1_h, h3_h, h4_h, h5_h, h6_h⟩ := hI
      show eI (eS E (tN s) t n)
      have eo : ∀ j, j ≠ 20 + tN s → j ≠ 24 + tN s → j < 300 → eS E (tN s) t n j = E j := fun j a b c => by unfold eS; rw [if_neg a, if_neg b, if_neg (by omega)]
      have e20_h : eS E (tN s) t n (20 + tN s) = t := if_pos rfl
      have e24_h : eS E (tN s) t n (24 + tN s) = if t < 0 then nI 0 else n := by unfold eS; rw [if_neg (by omega), if_pos rfl]
      have ht2_h : t = -1 ∨ eN t 4 := by
        by_cases h0_h : 0 ≤ t
        · exact Or.inr (eN_of (by decide) h0_h ht.2)
        · left
          have a1_h := Int32.le_iff_toInt_le.mp ht.1
          have a2_h := Int32.lt_iff_toInt_lt.mp (Int32.not_le.mp h0_h)
          apply Int32.toInt_inj.mp
          have e1_h : (-1 : Int32).toInt = -1 := rfl
          have e2_h : (0 : Int32).toInt = 0 := rfl
          omega
      have hn2_h : eN (if t < 0 then nI 0 else n) 40 := by
        by_cases h0_h : t < 0
        · rw [if_pos h0_h]; exact eN_i (by omega) (by decide)
        · rw [if_neg h0_h]
          have h0b : 0 ≤ t := Int32.not_lt.mp h0_h
          exact eN_of (by decide) (Int32.not_lt.mp (fun z => h2_h ⟨h0b, z⟩)) (Int32.not_lt.mp (fun z => hn ⟨h0b, z⟩))
      refine ⟨by rw [eo 0 (by omega) (by omega) (by omega)]; exact h1_h, fun r hr => ?_, by rw [eo 40 (by omega) (by omega) (by omega)]; exact h4_h, by rw [eo 80 (by omega) (by omega) (by omega)]; exact h5_h, fun i hi => by rw [eo _ (by omega) (by omega) (by omega)]; exact h6_h i hi⟩
      obtain ⟨b1_h, b2_h, b3_h, b4_h⟩ := h3_h r hr
      refine ⟨?_, ?_, ?_, ?_⟩
      · by_cases e : r = tN s
        · rw [e, e20_h]; exact ht2_h
        · rw [eo _ (by omega) (by omega) (by omega)]; exact b1_h
      · by_cases e : r = tN s
        · rw [e, e24_h]; exact hn2_h
        · rw [eo _ (by omega) (by omega) (by omega)]; exact b2_h
      · rw [eo _ (by omega) (by omega) (by omega)]; exact b3_h
      · rw [eo _ (by omega) (by omega) (by omega), eo _ (by omega) (by omega) (by omega)]; exact b4_h
  · exact hI
theorem eI_shelf {K : sg_K} {E : sg_E} (hI : eI E) {s x n : Int32} : eI (ef_shelf K E s x n).2 := by
  unfold ef_shelf
  split
  · rename_i h
    obtain ⟨hs, hx, -, hn⟩ := h
    have q1_h := (tN_of (n := 3) (by decide) hs.1 hs.2).2
    have hx3_h : x = nI 0 ∨ x = nI 1 ∨ x = nI 2 := by
      have q2_h := tN_of (n := 2) (by decide) hx.1 hx.2
      rcases (show tN x = 0 ∨ tN x = 1 ∨ tN x = 2 by omega) with e | e | e
      · left; rw [q2_h.1, e]
      · right; left; rw [q2_h.1, e]
      · right; right; rw [q2_h.1, e]
    obtain ⟨h1_h, h3_h, h4_h, h5_h, h6_h⟩ := hI
    show eI (eF E (tN s) x n)
    have eo : ∀ j, j ≠ 28 + tN s → j ≠ 32 + tN s → j ≠ 36 + tN s → eF E (tN s) x n j = E j := fun j a b c => by unfold eF; rw [eU_n c, eU_n b, eU_n a]
    have e28_h : eF E (tN s) x n (28 + tN s) = if x = nI 1 ∧ ¬ (0 ≤ E (20 + tN n)) then nI 2 else x := by unfold eF; rw [eU_n (by omega), eU_n (by omega), eU_s]
    have e32_h : eF E (tN s) x n (32 + tN s) = if x = nI 1 ∧ 0 ≤ E (20 + tN n) then E (20 + tN n) else n := by unfold eF; rw [eU_n (by omega), eU_s]
    refine ⟨by rw [eo 0 (by omega) (by omega) (by omega)]; exact h1_h, fun r hr => ?_, by rw [eo 40 (by omega) (by omega) (by omega)]; exact h4_h, by rw [eo 80 (by omega) (by omega) (by omega)]; exact h5_h, fun i hi => by rw [eo _ (by omega) (by omega) (by omega)]; exact h6_h i hi⟩
    obtain ⟨b1_h, b2_h, b3_h, b4_h⟩ := h3_h r hr
    refine ⟨by rw [eo _ (by omega) (by omega) (by omega)]; exact b1_h, by rw [eo _ (by omega) (by omega) (by omega)]; exact b2_h, ?_, ?_⟩
    · by_cases e : r = tN s
      · rw [e, e28_h]
        split
        · exact Or.inr (Or.inr rfl)
        · exact hx3_h
      · rw [eo _ (by omega) (by omega) (by omega)]; exact b3_h
    · by_cases e : r = tN s
      · rw [e, e28_h, e32_h]
        intro z
        by_cases h9_h : x = nI 1 ∧ ¬ (0 ≤ E (20 + tN n))
        · rw [if_pos h9_h] at z
          exact absurd z (by decide)
        · rw [if_neg h9_h] at z
          have h0_h : 0 ≤ E (20 + tN n) := Decidable.byContradiction (fun w => h9_h ⟨z, w⟩)
          rw [if_pos ⟨z, h0_h⟩]
          have hn2_h := hn z
          have q3_h := (tN_of (n := 3) (by decide) hn2_h.1 hn2_h.2).2
          rcases (h3_h (tN n) (by omega)).1 with w | w
          · rw [w] at h0_h; exact absurd h0_h (by decide)
          · exact w
      · rw [eo _ (by omega) (by omega) (by omega), eo _ (by omega) (by omega) (by omega)]; exact b4_h
  · exact hI
