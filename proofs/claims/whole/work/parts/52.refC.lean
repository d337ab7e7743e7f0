theorem rN_put {M M1 : dk_Mem} (h : dk_fr rN M M1) : dk_fr rN M M1 := h
theorem rest_le {w : sg_R} {σ : Nat → Nat} (o : sg_ok σ) : (sg_rest w 16 σ).2 ≤ 304 := sg_rest_le 16 σ o
theorem q_neg1 {a : Nat} (h : a < 2 ^ 31) : (-1 : Int32) < nI a := by
  rw [Int32.lt_iff_toInt_lt, nI_toInt h]
  have : (-1 : Int32).toInt = -1 := by decide
  omega
theorem sg_bf_le {F : Nat → Nat} {c n : Nat} (h : ∀ i, i ≤ n → F i ≤ c) : ∀ u, u ≤ n → (sg_bf F u).2 ≤ c
  | 0, _ => h 0 (by omega)
  | u + 1, hu => by
    rw [sg_bf]
    split
    · exact h _ hu
    · exact sg_bf_le h u (by omega)
set_option maxRecDepth 20000 in
theorem r_bfL {d : Nat} {M : dk_Mem} {Q : Option Value → dk_Mem → Prop} {σ : Nat → Nat} (o : sg_ok σ) {w : sg_R} {f : Nat → Int32} (hb : rb w (σ 6) f) {h wh m : Nat} (h6 : h < 6) (hwh : wh ≤ 4) (hm : m ≤ 10) (hok : ∀ v, v < m → sg_ok (sg_up σ (35 + 5 * h + wh) v)) (hr0 : rr σ M) (hT0 : rT f M) (hq : ∀ M1, dk_fr rN M M1 → Q (some (.int (nI (sg_bf (fun v => (sg_rest w 16 (sg_up σ (35 + 5 * h + wh) v)).2) (m - 1)).1))) M1) : ∀ (n v b : Nat) (x5 : Int32) (M1 : dk_Mem) (x7 : Option Value), v ≤ m → 0 < m → m - v < n → ((v = 0 ∧ b = 0 ∧ x5 = -1) ∨ (0 < v ∧ b = (sg_bf (fun v => (sg_rest w 16 (sg_up σ (35 + 5 * h + wh) v)).2) (v - 1)).1 ∧ x5 = nI (sg_bf (fun v => (sg_rest w 16 (sg_up σ (35 + 5 * h + wh) v)).2) (v - 1)).2)) → dk_fr rN M M1 → rW (M.1 105) M1 → dk_W (d + 9) mX12_bestFor 13 [some (.ref 104), some (.int (nI h)), some (.int (nI wh)), some (.int (nI m)), some (.int (nI b)), some (.int x5), some (.int (nI v)), x7] [] M1 Q := by
  generalize hF : (fun v => (sg_rest w 16 (sg_up σ (35 + 5 * h + wh) v)).2) = F at *
  have Fv : ∀ v, (sg_rest w 16 (sg_up σ (35 + 5 * h + wh) v)).2 = F v := fun v => by rw [← hF]
  intro n
  induction n with
  | zero => intro v b x5 M1 x7 _ _ h; omega
  | succ n ih =>
    intro v b x5 M1 x7 hi hm0 hn hx hf hW
    have hr := hr0.N hf
    have hT := hT0.N hf
    refine w_il6 (n := 15) dX12_bestFor_13 rfl ?_
    refine w_il3 (n := 16) dX12_bestFor_15 rfl ?_
    refine w_ic_ge (n := 19) 73 dX12_bestFor_16 (by decide) rfl (fun z16 => ?_) (fun z16 => ?_)
    · skip
      refine w_il4 (n := 75) dX12_bestFor_73 rfl ?_
      refine w_retI dX12_bestFor_75 rfl ?_
      have ev : v = m := by rw [q_le (by omega) (by omega)] at z16; omega
      rcases hx with ⟨e1, e2, e3⟩ | ⟨e1, e2, e3⟩
      · omega
      · rw [e2, ev]; exact hq M1 hf
    · skip
      have hv : v < m := by rw [q_le (by omega) (by omega)] at z16; omega
      refine w_al0 (n := 20) dX12_bestFor_19 rfl ?_
      refine w_il1 (n := 21) dX12_bestFor_20 rfl ?_
      refine w_il2 (n := 22) dX12_bestFor_21 rfl ?_
      refine w_il6 (n := 24) dX12_bestFor_22 rfl ?_
      refine w_cV3 (n := 27) pl_104 cl_12 s0_X12_put k_X12_105 (Nat.le_of_ble_eq_true rfl) dX12_bestFor_24 rfl (r_put (h := h) (w := wh) (by omega) ?_)
      have f1 : dk_fr rG M1 (dk_put M1 105 (35 + 5 * h + wh) (nI v)) := rG_put dk_fr.rf (by omega) (by omega)
      have hr1 : rr (sg_up σ (35 + 5 * h + wh) v) (dk_put M1 105 (35 + 5 * h + wh) (nI v)) := hr.put
      have hT1 : rT f (dk_put M1 105 (35 + 5 * h + wh) (nI v)) := hT.fr f1
      have hW1 := hW.fr f1 nG7
      refine w_al0 (n := 28) dX12_bestFor_27 rfl ?_
      refine w_bipush (n := 30) (nI 16) dX12_bestFor_28 (by decide) rfl ?_
      refine w_cV1 (n := 33) pl_104 cl_12 s0_X12_restOf k_X12_232 (Nat.le_of_ble_eq_true rfl) dX12_bestFor_30 rfl (r_restOf (σ := sg_up σ (35 + 5 * h + wh) v) (w := w) (f := f) hr1 (hok v hv) (by rw [sg_up_n (by omega)]; exact hb) hT1 (Nat.le_refl 16) (g := M.1 105) hW1 (fun M2 g1 g2 => ?_))
      rw [Fv]
      have bF : F v ≤ 304 := by rw [← Fv]; exact rest_le (hok v hv)
      have g9 := hf.tr (r_back (f1.tr g1) g2 (fun k hk => (hf.2 105 k (by rintro (z | z | z | z | z) <;> omega)).symm))
      have g8 : rW (M.1 105) (dk_row M2 105 (dk_cp (M2.1 107) (M2.1 105) 621)) := fun k hk => by rw [dk_row_k (by decide)]; exact g2 k hk
      refine w_is7 (n := 35) dX12_bestFor_33 rfl rfl (by decide) ?_
      refine w_il7 (n := 37) dX12_bestFor_35 rfl ?_
      refine w_il5 (n := 39) dX12_bestFor_37 rfl ?_
      refine w_ic_le (n := 42) 47 dX12_bestFor_39 (by decide) rfl (fun z39 => ?_) (fun z39 => ?_)
      · skip
        refine w_il4 (n := 49) dX12_bestFor_47 rfl ?_
        refine w_is4 (n := 51) dX12_bestFor_49 rfl rfl (by decide) ?_
        refine w_il7 (n := 53) dX12_bestFor_51 rfl ?_
        refine w_il5 (n := 55) dX12_bestFor_53 rfl ?_
        refine w_ic_le (n := 58) 63 dX12_bestFor_55 (by decide) rfl (fun z55 => ?_) (fun z55 => ?_)
        · skip
          refine w_il5 (n := 65) dX12_bestFor_63 rfl ?_
          refine w_is5 (n := 67) dX12_bestFor_65 rfl rfl (by decide) ?_
          refine w_inc6 (n := 70) (nI 1) dX12_bestFor_67 (by decide) rfl rfl (by decide) ?_
          refine w_goto 13 dX12_bestFor_70 (by decide) ?_
          rw [nI_add]
          have gt : (x5 < nI (F v) → ∀ b1, b1 = v → ∀ y, y = nI (F v) → ((v + 1 = 0 ∧ b1 = 0 ∧ y = -1) ∨ (0 < v + 1 ∧ b1 = (sg_bf F (v + 1 - 1)).1 ∧ y = nI (sg_bf F (v + 1 - 1)).2))) ∧ (¬ x5 < nI (F v) → ∀ b1, b1 = b → ∀ y, y = x5 → ((v + 1 = 0 ∧ b1 = 0 ∧ y = -1) ∨ (0 < v + 1 ∧ b1 = (sg_bf F (v + 1 - 1)).1 ∧ y = nI (sg_bf F (v + 1 - 1)).2))) := by
            rw [Nat.add_sub_cancel]
            rcases hx with ⟨e1, e2, e3⟩ | ⟨e1, e2, e3⟩
            · subst e1
              refine ⟨fun _ b1 h1 y h2 => Or.inr ⟨by omega, h1, h2⟩, fun hn9 => absurd ?_ hn9⟩
              rw [e3]
              exact q_neg1 (by omega)
            · obtain ⟨u, rfl⟩ : ∃ u, v = u + 1 := ⟨v - 1, by omega⟩
              rw [Nat.add_sub_cancel] at e2 e3
              have bl : (sg_bf F u).2 ≤ 304 := sg_bf_le (fun i hi9 => by rw [← Fv]; exact rest_le (hok i (by omega))) u (Nat.le_refl u)
              rw [e3, nI_ltI (by omega) (by omega)]
              refine ⟨fun hl b1 h1 y h2 => Or.inr ⟨by omega, ?_, ?_⟩, fun hl b1 h1 y h2 => Or.inr ⟨by omega, ?_, ?_⟩⟩
              · rw [sg_bf, if_pos hl]; exact h1
              · rw [sg_bf, if_pos hl]; exact h2
              · rw [sg_bf, if_neg hl, h1]; exact e2
              · rw [sg_bf, if_neg hl, h2]
          first | exact ih (v + 1) v (nI (F v)) _ _ (by omega) hm0 (by omega) (gt.1 (Int32.not_le.mp z39) v rfl _ rfl) g9 g8 | exact ih (v + 1) b x5 _ _ (by omega) hm0 (by omega) (gt.2 (Int32.not_lt.mpr z39) b rfl _ rfl) g9 g8 | exact absurd z39 z55 | exact absurd z55 z39
        · skip
          refine w_il7 (n := 60) dX12_bestFor_58 rfl ?_
          refine w_goto 65 dX12_bestFor_60 (by decide) ?_
          refine w_is5 (n := 67) dX12_bestFor_65 rfl rfl (by decide) ?_
          refine w_inc6 (n := 70) (nI 1) dX12_bestFor_67 (by decide) rfl rfl (by decide) ?_
          refine w_goto 13 dX12_bestFor_70 (by decide) ?_
          rw [nI_add]
          have gt : (x5 < nI (F v) → ∀ b1, b1 = v → ∀ y, y = nI (F v) → ((v + 1 = 0 ∧ b1 = 0 ∧ y = -1) ∨ (0 < v + 1 ∧ b1 = (sg_bf F (v + 1 - 1)).1 ∧ y = nI (sg_bf F (v + 1 - 1)).2))) ∧ (¬ x5 < nI (F v) → ∀ b1, b1 = b → ∀ y, y = x5 → ((v + 1 = 0 ∧ b1 = 0 ∧ y = -1) ∨ (0 < v + 1 ∧ b1 = (sg_bf F (v + 1 - 1)).1 ∧ y = nI (sg_bf F (v + 1 - 1)).2))) := by
            rw [Nat.add_sub_cancel]
            rcases hx with ⟨e1, e2, e3⟩ | ⟨e1, e2, e3⟩
            · subst e1
              refine ⟨fun _ b1 h1 y h2 => Or.inr ⟨by omega, h1, h2⟩, fun hn9 => absurd ?_ hn9⟩
              rw [e3]
              exact q_neg1 (by omega)
            · obtain ⟨u, rfl⟩ : ∃ u, v = u + 1 := ⟨v - 1, by omega⟩
              rw [Nat.add_sub_cancel] at e2 e3
              have bl : (sg_bf F u).2 ≤ 304 := sg_bf_le (fun i hi9 => by rw [← Fv]; exact rest_le (hok i (by omega))) u (Nat.le_refl u)
              rw [e3, nI_ltI (by omega) (by omega)]
              refine ⟨fun hl b1 h1 y h2 => Or.inr ⟨by omega, ?_, ?_⟩, fun hl b1 h1 y h2 => Or.inr ⟨by omega, ?_, ?_⟩⟩
              · rw [sg_bf, if_pos hl]; exact h1
              · rw [sg_bf, if_pos hl]; exact h2
              · rw [sg_bf, if_neg hl, h1]; exact e2
              · rw [sg_bf, if_neg hl, h2]
          first | exact ih (v + 1) v (nI (F v)) _ _ (by omega) hm0 (by omega) (gt.1 (Int32.not_le.mp z39) v rfl _ rfl) g9 g8 | exact ih (v + 1) b x5 _ _ (by omega) hm0 (by omega) (gt.2 (Int32.not_lt.mpr z39) b rfl _ rfl) g9 g8 | exact absurd z39 z55 | exact absurd z55 z39
      · skip
        refine w_il6 (n := 44) dX12_bestFor_42 rfl ?_
        refine w_goto 49 dX12_bestFor_44 (by decide) ?_
        refine w_is4 (n := 51) dX12_bestFor_49 rfl rfl (by decide) ?_
        refine w_il7 (n := 53) dX12_bestFor_51 rfl ?_
        refine w_il5 (n := 55) dX12_bestFor_53 rfl ?_
        refine w_ic_le (n := 58) 63 dX12_bestFor_55 (by decide) rfl (fun z55 => ?_) (fun z55 => ?_)
        · skip
          refine w_il5 (n := 65) dX12_bestFor_63 rfl ?_
          refine w_is5 (n := 67) dX12_bestFor_65 rfl rfl (by decide) ?_
          refine w_inc6 (n := 70) (nI 1) dX12_bestFor_67 (by decide) rfl rfl (by decide) ?_
          refine w_goto 13 dX12_bestFor_70 (by decide) ?_
          rw [nI_add]
          have gt : (x5 < nI (F v) → ∀ b1, b1 = v → ∀ y, y = nI (F v) → ((v + 1 = 0 ∧ b1 = 0 ∧ y = -1) ∨ (0 < v + 1 ∧ b1 = (sg_bf F (v + 1 - 1)).1 ∧ y = nI (sg_bf F (v + 1 - 1)).2))) ∧ (¬ x5 < nI (F v) → ∀ b1, b1 = b → ∀ y, y = x5 → ((v + 1 = 0 ∧ b1 = 0 ∧ y = -1) ∨ (0 < v + 1 ∧ b1 = (sg_bf F (v + 1 - 1)).1 ∧ y = nI (sg_bf F (v + 1 - 1)).2))) := by
            rw [Nat.add_sub_cancel]
            rcases hx with ⟨e1, e2, e3⟩ | ⟨e1, e2, e3⟩
            · subst e1
              refine ⟨fun _ b1 h1 y h2 => Or.inr ⟨by omega, h1, h2⟩, fun hn9 => absurd ?_ hn9⟩
              rw [e3]
              exact q_neg1 (by omega)
            · obtain ⟨u, rfl⟩ : ∃ u, v = u + 1 := ⟨v - 1, by omega⟩
              rw [Nat.add_sub_cancel] at e2 e3
              have bl : (sg_bf F u).2 ≤ 304 := sg_bf_le (fun i hi9 => by rw [← Fv]; exact rest_le (hok i (by omega))) u (Nat.le_refl u)
              rw [e3, nI_ltI (by omega) (by omega)]
              refine ⟨fun hl b1 h1 y h2 => Or.inr ⟨by omega, ?_, ?_⟩, fun hl b1 h1 y h2 => Or.inr ⟨by omega, ?_, ?_⟩⟩
              · rw [sg_bf, if_pos hl]; exact h1
              · rw [sg_bf, if_pos hl]; exact h2
              · rw [sg_bf, if_neg hl, h1]; exact e2
              · rw [sg_bf, if_neg hl, h2]
          first | exact ih (v + 1) v (nI (F v)) _ _ (by omega) hm0 (by omega) (gt.1 (Int32.not_le.mp z39) v rfl _ rfl) g9 g8 | exact ih (v + 1) b x5 _ _ (by omega) hm0 (by omega) (gt.2 (Int32.not_lt.mpr z39) b rfl _ rfl) g9 g8 | exact absurd z39 z55 | exact absurd z55 z39
        · skip
          refine w_il7 (n := 60) dX12_bestFor_58 rfl ?_
          refine w_goto 65 dX12_bestFor_60 (by decide) ?_
          refine w_is5 (n := 67) dX12_bestFor_65 rfl rfl (by decide) ?_
          refine w_inc6 (n := 70) (nI 1) dX12_bestFor_67 (by decide) rfl rfl (by decide) ?_
          refine w_goto 13 dX12_bestFor_70 (by decide) ?_
          rw [nI_add]
          have gt : (x5 < nI (F v) → ∀ b1, b1 = v → ∀ y, y = nI (F v) → ((v + 1 = 0 ∧ b1 = 0 ∧ y = -1) ∨ (0 < v + 1 ∧ b1 = (sg_bf F (v + 1 - 1)).1 ∧ y = nI (sg_bf F (v + 1 - 1)).2))) ∧ (¬ x5 < nI (F v) → ∀ b1, b1 = b → ∀ y, y = x5 → ((v + 1 = 0 ∧ b1 = 0 ∧ y = -1) ∨ (0 < v + 1 ∧ b1 = (sg_bf F (v + 1 - 1)).1 ∧ y = nI (sg_bf F (v + 1 - 1)).2))) := by
            rw [Nat.add_sub_cancel]
            rcases hx with ⟨e1, e2, e3⟩ | ⟨e1, e2, e3⟩
            · subst e1
              refine ⟨fun _ b1 h1 y h2 => Or.inr ⟨by omega, h1, h2⟩, fun hn9 => absurd ?_ hn9⟩
              rw [e3]
              exact q_neg1 (by omega)
            · obtain ⟨u, rfl⟩ : ∃ u, v = u + 1 := ⟨v - 1, by omega⟩
              rw [Nat.add_sub_cancel] at e2 e3
              have bl : (sg_bf F u).2 ≤ 304 := sg_bf_le (fun i hi9 => by rw [← Fv]; exact rest_le (hok i (by omega))) u (Nat.le_refl u)
              rw [e3, nI_ltI (by omega) (by omega)]
              refine ⟨fun hl b1 h1 y h2 => Or.inr ⟨by omega, ?_, ?_⟩, fun hl b1 h1 y h2 => Or.inr ⟨by omega, ?_, ?_⟩⟩
              · rw [sg_bf, if_pos hl]; exact h1
              · rw [sg_bf, if_pos hl]; exact h2
              · rw [sg_bf, if_neg hl, h1]; exact e2
              · rw [sg_bf, if_neg hl, h2]
          first | exact ih (v + 1) v (nI (F v)) _ _ (by omega) hm0 (by omega) (gt.1 (Int32.not_le.mp z39) v rfl _ rfl) g9 g8 | exact ih (v + 1) b x5 _ _ (by omega) hm0 (by omega) (gt.2 (Int32.not_lt.mpr z39) b rfl _ rfl) g9 g8 | exact absurd z39 z55 | exact absurd z55 z39

set_option maxRecDepth 20000 in
theorem r_bestFor {d : Nat} {M : dk_Mem} {Q : Option Value → dk_Mem → Prop} {σ : Nat → Nat} (hr : rr σ M) (o : sg_ok σ) {w : sg_R} {f : Nat → Int32} (hb : rb w (σ 6) f) (hT : rT f M) {h wh m : Nat} (h6 : h < 6) (hwh : wh ≤ 4) (hm : m ≤ 10) (hm0 : 0 < m) (hok : ∀ v, v < m → sg_ok (sg_up σ (35 + 5 * h + wh) v)) (hq : ∀ M1, dk_fr rN M M1 → Q (some (.int (nI (sg_bf (fun v => (sg_rest w 16 (sg_up σ (35 + 5 * h + wh) v)).2) (m - 1)).1))) M1) : dk_Call (d + 9) mX12_bestFor [.ref 104, .int (nI h), .int (nI wh), .int (nI m)] M Q := by
  refine dk_enter [some (.ref 104), some (.int (nI h)), some (.int (nI wh)), some (.int (nI m)), none, none, none, none] (by decide) (fun _ => rfl) (fun _ => Nat.le_of_ble_eq_true rfl) ?_
  refine w_al0 (n := 1) dX12_bestFor_0 rfl ?_
  refine w_cV0 (n := 4) pl_104 cl_12 s0_X12_thinks k_X12_196 (Nat.le_of_ble_eq_true rfl) dX12_bestFor_1 rfl (r_thinks ?_)
  refine w_iconst (n := 5) (nI 0) dX12_bestFor_4 (by decide) rfl ?_
  refine w_is4 (n := 7) dX12_bestFor_5 rfl rfl (by decide) ?_
  refine w_iconst (n := 8) (-1) dX12_bestFor_7 (by decide) rfl ?_
  refine w_is5 (n := 10) dX12_bestFor_8 rfl rfl (by decide) ?_
  refine w_iconst (n := 11) (nI 0) dX12_bestFor_10 (by decide) rfl ?_
  refine w_is6 (n := 13) dX12_bestFor_11 rfl rfl (by decide) ?_
  have hf1 := rN_thinks (M := M)
  refine r_bfL o hb h6 hwh hm hok (hr.N hf1) (hT.N hf1) (fun M1 g => hq M1 (hf1.tr g)) (m + 1) 0 0 (-1) _ _ (by omega) hm0 (by omega) (Or.inl ⟨rfl, rfl, rfl⟩) dk_fr.rf (fun k hk => ?_)
  rw [dk_row_at, dk_row_k (by decide)]; exact if_pos hk

set_option maxRecDepth 20000 in
theorem R_gapFor {d : Nat} {M : dk_Mem} {Q : Option Value → dk_Mem → Prop} {K : sg_K} (hK : rK K M) {k : Int32} (hq : ∀ M2, rK (kf_best 37 9 K k).2 M2 → dk_fr rA M M2 → Q (some (.int (kf_best 37 9 K k).1)) M2) : dk_Call (d + 10) mX12_gapFor [.ref 104, .int k] M Q := by
  have hK0 := hK
  obtain ⟨⟨o, p1, p2, p3⟩, hr, ⟨f, hb, hT⟩, hsc, hz⟩ := hK0
  have o4 := o.2.2.2.1
  have o16 := o.2.1
  refine dk_enter [some (.ref 104), some (.int k)] (by decide) (fun _ => rfl) (fun _ => Nat.le_of_ble_eq_true rfl) ?_
  refine w_al0 (n := 1) dX12_gapFor_0 rfl ?_
  refine w_il1 (n := 2) dX12_gapFor_1 rfl ?_
  refine w_cV1 (n := 5) pl_104 cl_12 s0_X12_isPiece k_X12_109 (Nat.le_of_ble_eq_true rfl) dX12_gapFor_2 rfl (r_isPiece hr o (fun h hh e => ?_) (fun nh => ?_))
  · skip
    subst e
    have h6 : h < 6 := by omega
    refine w_if_eq (n := 8) 19 dX12_gapFor_5 (by decide) rfl (fun h => absurd h (by decide)) (fun _ => ?_)
    refine w_al0 (n := 9) dX12_gapFor_8 rfl ?_
    refine w_il1 (n := 10) dX12_gapFor_9 rfl ?_
    refine w_iconst (n := 11) (nI 2) dX12_gapFor_10 (by decide) rfl ?_
    refine w_bipush (n := 13) (nI 10) dX12_gapFor_11 (by decide) rfl ?_
    refine w_cV3 (n := 16) pl_104 cl_12 s0_X12_bestFor k_X12_235 (Nat.le_of_ble_eq_true rfl) dX12_gapFor_13 rfl (r_bestFor hr o hb hT h6 (wh := 2) (m := 10) (by decide) (by decide) (by decide) (fun v hv => (hK.1.u_gap h6 (v := v) (by omega)).1 |> fun z => by rw [show 35 + 5 * h + 2 = 37 + 5 * h by omega]; exact z) (fun M1 g => ?_))
    refine w_goto 20 dX12_gapFor_16 (by decide) ?_
    refine w_retI dX12_gapFor_20 rfl ?_
    refine dk_fin hq (by unfold kf_best; rw [sg_pc_some o4 hh]) (hK.N g) (rN_A g) |> fun z => dk_q ?_ z
    congr 1
    rw [show 35 + 5 * h + 2 = 37 + 5 * h by omega]
  · skip
    refine w_if_eq (n := 8) 19 dX12_gapFor_5 (by decide) rfl (fun _ => ?_) (fun h => absurd (by decide) h)
    refine w_iconst (n := 20) (-1) dX12_gapFor_19 (by decide) rfl ?_
    refine w_retI dX12_gapFor_20 rfl ?_
    exact dk_fin hq (by unfold kf_best; rw [sg_pc_none o4 nh]) hK dk_fr.rf

set_option maxRecDepth 20000 in
theorem R_roomFor {d : Nat} {M : dk_Mem} {Q : Option Value → dk_Mem → Prop} {K : sg_K} (hK : rK K M) {k : Int32} (hq : ∀ M2, rK (kf_best 38 5 K k).2 M2 → dk_fr rA M M2 → Q (some (.int (kf_best 38 5 K k).1)) M2) : dk_Call (d + 10) mX12_roomFor [.ref 104, .int k] M Q := by
  have hK0 := hK
  obtain ⟨⟨o, p1, p2, p3⟩, hr, ⟨f, hb, hT⟩, hsc, hz⟩ := hK0
  have o4 := o.2.2.2.1
  have o16 := o.2.1
  refine dk_enter [some (.ref 104), some (.int k)] (by decide) (fun _ => rfl) (fun _ => Nat.le_of_ble_eq_true rfl) ?_
  refine w_al0 (n := 1) dX12_roomFor_0 rfl ?_
  refine w_il1 (n := 2) dX12_roomFor_1 rfl ?_
  refine w_cV1 (n := 5) pl_104 cl_12 s0_X12_isPiece k_X12_109 (Nat.le_of_ble_eq_true rfl) dX12_roomFor_2 rfl (r_isPiece hr o (fun h hh e => ?_) (fun nh => ?_))
  · skip
    subst e
    have h6 : h < 6 := by omega
    refine w_if_eq (n := 8) 19 dX12_roomFor_5 (by decide) rfl (fun h => absurd h (by decide)) (fun _ => ?_)
    refine w_al0 (n := 9) dX12_roomFor_8 rfl ?_
    refine w_il1 (n := 10) dX12_roomFor_9 rfl ?_
    refine w_iconst (n := 11) (nI 3) dX12_roomFor_10 (by decide) rfl ?_
    refine w_bipush (n := 13) (nI 6) dX12_roomFor_11 (by decide) rfl ?_
    refine w_cV3 (n := 16) pl_104 cl_12 s0_X12_bestFor k_X12_235 (Nat.le_of_ble_eq_true rfl) dX12_roomFor_13 rfl (r_bestFor hr o hb hT h6 (wh := 3) (m := 6) (by decide) (by decide) (by decide) (fun v hv => (hK.1.u_room h6 (v := v) (by omega)).1 |> fun z => by rw [show 35 + 5 * h + 3 = 38 + 5 * h by omega]; exact z) (fun M1 g => ?_))
    refine w_goto 20 dX12_roomFor_16 (by decide) ?_
    refine w_retI dX12_roomFor_20 rfl ?_
    refine dk_fin hq (by unfold kf_best; rw [sg_pc_some o4 hh]) (hK.N g) (rN_A g) |> fun z => dk_q ?_ z
    congr 1
    rw [show 35 + 5 * h + 3 = 38 + 5 * h by omega]
  · skip
    refine w_if_eq (n := 8) 19 dX12_roomFor_5 (by decide) rfl (fun _ => ?_) (fun h => absurd (by decide) h)
    refine w_iconst (n := 20) (-1) dX12_roomFor_19 (by decide) rfl ?_
    refine w_retI dX12_roomFor_20 rfl ?_
    exact dk_fin hq (by unfold kf_best; rw [sg_pc_none o4 nh]) hK dk_fr.rf
