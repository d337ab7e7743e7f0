theorem w_gets368 {d : Nat} {μ : dk_Mt} {pc n : Nat} {L : List (Option Value)} {st : List Value} {M : dk_Mem} {Q : Option Value → dk_Mem → Prop} (hd : decode μ.2.1 pc = .ok (.getstatic 368, 3)) (hn : pc + 3 = n) (k : dk_W d μ n L (.ref 200 :: st) M Q) (hm : μ.1.cls = "DominoKin" := by rfl) : dk_W d μ pc L st M Q := by
  subst hn
  have hl : Cond.fieldLink μ.1.cls 368 "DominoKin" "LINEAGE" "[I" ∈ dk_T := by rw [hm]; exact dk_in (i := 594) (by decide +kernel) rfl
  exact fun p l e R s m args below meth c H locs cells slots Z ls ad ca G A C hL hW hK => va_gets C.1 C.2.1 hW.2.2.2.2.1 hW.2.2.2.1 C.2.2.2.1 (C.2.2.2.2.1 _ hl) (fun _ h => h) hd (k p l e R s m args below meth c H locs cells slots Z ls ad ca G A C hL hW hK)

theorem w_gets137 {d : Nat} {μ : dk_Mt} {pc n : Nat} {L : List (Option Value)} {st : List Value} {M : dk_Mem} {Q : Option Value → dk_Mem → Prop} (hd : decode μ.2.1 pc = .ok (.getstatic 137, 3)) (hn : pc + 3 = n) (k : dk_W d μ n L (.ref 201 :: st) M Q) (hm : μ.1.cls = "DominoKinModel" := by rfl) : dk_W d μ pc L st M Q := by
  subst hn
  have hl : Cond.fieldLink μ.1.cls 137 "DominoKinModel" "NAMES" "[I" ∈ dk_T := by rw [hm]; exact dk_in (i := 1511) (by decide +kernel) rfl
  exact fun p l e R s m args below meth c H locs cells slots Z ls ad ca G A C hL hW hK => va_gets C.1 C.2.1 hW.2.2.2.2.2.2.1 hW.2.2.2.1 C.2.2.2.1 (C.2.2.2.2.1 _ hl) (fun _ h => h) hd (k p l e R s m args below meth c H locs cells slots Z ls ad ca G A C hL hW hK)

theorem w_sld_DominoKin {d : Nat} {μ : dk_Mt} {pc n : Nat} {L : List (Option Value)} {st : List Value} {M : dk_Mem} {Q : Option Value → dk_Mem → Prop} {j : Nat} {i x : Int32} (hi : i = nI j) (hj : j < 6) (hx : dk_lin j = x) (hd : decode μ.2.1 pc = .ok (.iaload, 1)) (hn : pc + 1 = n) (k : dk_W d μ n L (.int x :: st) M Q) : dk_W d μ pc L (.int i :: .ref 200 :: st) M Q := by
  subst hn hi
  exact fun p l e R s m args below meth c H locs cells slots Z ls ad ca G A C hL hW hK => va_ti C.1 C.2.1 hW.2.2.2.2.2.1 hW.2.2.2.1 (vp_in_nI hj (by decide)) (by rw [nI_clamp (by omega), hx]; rfl) hd (k p l e R s m args below meth c H locs cells slots Z ls ad ca G A C hL hW hK)

theorem w_sld_DominoKinModel {d : Nat} {μ : dk_Mt} {pc n : Nat} {L : List (Option Value)} {st : List Value} {M : dk_Mem} {Q : Option Value → dk_Mem → Prop} {j : Nat} {i x : Int32} (hi : i = nI j) (hj : j < 126) (hx : dk_nam j = x) (hd : decode μ.2.1 pc = .ok (.iaload, 1)) (hn : pc + 1 = n) (k : dk_W d μ n L (.int x :: st) M Q) : dk_W d μ pc L (.int i :: .ref 201 :: st) M Q := by
  subst hn hi
  exact fun p l e R s m args below meth c H locs cells slots Z ls ad ca G A C hL hW hK => va_ti C.1 C.2.1 hW.2.2.2.2.2.2.2.1 hW.2.2.2.1 (vp_in_nI hj (by decide)) (by rw [nI_clamp (by omega), hx]; rfl) hd (k p l e R s m args below meth c H locs cells slots Z ls ad ca G A C hL hW hK)

theorem q_under : ∀ k, k < 6 → ∀ a, a < 6 → (dk_lin k >>> (nI a &&& 31)) &&& nI 1 = nI (if sg_ub k a then 1 else 0) := by decide +kernel
theorem dk_ref_i {M : dk_Mem} {p k q : Nat} (h : M.1 p k = nI q) (hq : q < 2 ^ 31) : dk_ref M p k = some q := by
  unfold dk_ref
  rw [h, if_neg (Int32.not_lt.mpr (nI_pos' hq)), nI_clamp hq]
theorem dk_ref_n {M : dk_Mem} {p k : Nat} (h : M.1 p k = -1) : dk_ref M p k = none := by
  unfold dk_ref
  rw [h, if_pos (by decide)]
theorem bo_is {β : Nat} (h : dk_bo β) : dk_is β 8 := by
  rcases h with rfl | rfl | rfl
  · exact pl_24
  · exact pl_47
  · exact pl_82
theorem eH_z {E : sg_E} (hI : eI E) {s : Nat} (hs : s < 4) : eH E s = 0 ↔ E (28 + s) = 0 := by
  unfold eH
  constructor
  · intro h
    rcases (hI.2.1 s hs).2.2.1 with e | e | e
    · exact e
    · rw [if_neg (by rw [e]; decide), if_pos e] at h
      have g := (hI.2.1 s hs).2.2.2 e
      rw [g.1, nI_add, q_nz (by have := g.2; omega)] at h
      omega
    · rw [if_neg (by rw [e]; decide), if_neg (by rw [e]; decide)] at h
      exact absurd h (by decide)
  · intro h
    exact if_pos h
theorem eH_1 {E : sg_E} {s : Nat} (e : E (28 + s) = nI 1) : eH E s = nI 10 + E (32 + s) := by
  unfold eH
  rw [if_neg (by rw [e]; decide), if_pos e]
theorem eH_2 {E : sg_E} {s : Nat} (e : E (28 + s) ≠ 0) (e1_h : E (28 + s) ≠ nI 1) : eH E s = -1 := by
  unfold eH
  rw [if_neg e, if_neg e1_h]
theorem q_10 {E : sg_E} (hI : eI E) {s : Nat} (hs : s < 4) (e : E (28 + s) = nI 1) : nI 10 + E (32 + s) ≠ -1 ∧ nI 10 + E (32 + s) ≠ 0 := by
  have g := (hI.2.1 s hs).2.2.2 e
  rw [g.1]
  have g2_h := g.2
  generalize tN (E (32 + s)) = j at g2_h
  rcases (show j = 0 ∨ j = 1 ∨ j = 2 ∨ j = 3 ∨ j = 4 by omega) with rfl | rfl | rfl | rfl | rfl <;> decide
theorem cE.shelf {E : sg_E} {M : dk_Mem} (hI : eI E) (h : cE E M) {s : Nat} (hs : s < 4) {x n a b : Int32} (h1_h : a = eH (eF E s x n) s) (h2_h : eF E s x n (28 + s) = 0 → b = eF E s x n (32 + s)) (h3_h : eF E s x n (28 + s) = nI 1 → b = eF E s x n (36 + s)) : cE (eF E s x n) (dk_put (dk_put M 102 s a) 103 s b) := by
  have em : ∀ q k, q ≠ 102 → q ≠ 103 → (dk_put (dk_put M 102 s a) 103 s b).1 q k = M.1 q k := fun q k a b => by rw [dk_put_k (by omega), dk_put_k (by omega)]
  have ee : ∀ j, j ≠ 28 + s → j ≠ 32 + s → j ≠ 36 + s → eF E s x n j = E j := fun j a b c => by unfold eF; rw [eU_n c, eU_n b, eU_n a]
  refine ⟨h.1.fr hI (fun j hj => ee j (by omega) (by omega) (by omega)) (fun q k z => em q k (by omega) (by omega)), h.2.1.fr (fun j hj => ee j (by omega) (by omega) (by omega)) (fun q k z => em q k (by omega) (by omega)), fun i hi => ?_, h.2.2.2.1.fr hI (fun j hj => ee j (by omega) (by omega) (by omega)) (fun q k z => em q k (by omega) (by omega)), h.2.2.2.2.fr hI (fun j hj => ee j (by omega) (by omega) (by omega)) (fun q k z => em q k (by omega) (by omega))⟩
  by_cases e : i = s
  · subst e
    rw [dk_put_s, dk_put_k (by omega), dk_put_s]
    exact ⟨h1_h, h2_h, h3_h⟩
  · have g := h.2.2.1 i hi
    unfold eH at *
    rw [dk_put_k (by omega), dk_put_k (by omega), dk_put_k (by omega), dk_put_k (by omega), ee (28 + i) (by omega) (by omega) (by omega), ee (32 + i) (by omega) (by omega) (by omega), ee (36 + i) (by omega) (by omega) (by omega)]
    exact g
theorem fX_shelf {M : dk_Mem} {s : Nat} {a b : Int32} : dk_fr cXX M (dk_put (dk_put M 102 s a) 103 s b) := (dk_fr.rf.put (by unfold cXX; omega)).put (by unfold cXX; omega)
theorem eF_28 {E : sg_E} {s : Nat} {x n : Int32} : eF E s x n (28 + s) = if x = nI 1 ∧ ¬ (0 ≤ E (20 + tN n)) then nI 2 else x := by unfold eF; rw [eU_n (by omega), eU_n (by omega), eU_s]
theorem eF_32 {E : sg_E} {s : Nat} {x n : Int32} : eF E s x n (32 + s) = if x = nI 1 ∧ 0 ≤ E (20 + tN n) then E (20 + tN n) else n := by unfold eF; rw [eU_n (by omega), eU_s]
theorem eF_36 {E : sg_E} {s : Nat} {x n : Int32} : eF E s x n (36 + s) = if x = nI 1 ∧ 0 ≤ E (20 + tN n) then E (24 + tN n) else nI 0 := by unfold eF; rw [eU_s]
/-- the shelf's four ways -/
theorem cE.sh0 {E : sg_E} {M : dk_Mem} (hI : eI E) (h : cE E M) {s : Nat} (hs : s < 4) {n : Int32} : cE (eF E s (nI 0) n) (dk_put (dk_put M 102 s (nI 0)) 103 s n) := by
  have n1_h : ¬ (nI 0 = nI 1 ∧ 0 ≤ E (20 + tN n)) := fun z => absurd z.1 (by decide)
  have e : eF E s (nI 0) n (28 + s) = 0 := by rw [eF_28, if_neg (fun z => absurd z.1 (by decide))]; rfl
  refine h.shelf hI hs (by unfold eH; rw [if_pos e]; rfl) (fun _ => by rw [eF_32, if_neg n1_h]) (fun z => ?_)
  rw [e] at z
  exact absurd z (by decide)
theorem cE.sh2 {E : sg_E} {M : dk_Mem} (hI : eI E) (h : cE E M) {s : Nat} (hs : s < 4) {x n b : Int32} (hx : eF E s x n (28 + s) = nI 2) : cE (eF E s x n) (dk_put (dk_put M 102 s (-1)) 103 s b) := by
  refine h.shelf hI hs ?_ (fun z => ?_) (fun z => ?_)
  · rw [eH_2 (by rw [hx]; decide) (by rw [hx]; decide)]
  · rw [hx] at z; exact absurd z (by decide)
  · rw [hx] at z; exact absurd z (by decide)
theorem cE.sh1 {E : sg_E} {M : dk_Mem} (hI : eI E) (h : cE E M) {s : Nat} (hs : s < 4) {n : Int32} (hn : 0 ≤ E (20 + tN n)) : cE (eF E s (nI 1) n) (dk_put (dk_put M 102 s (nI 10 + E (20 + tN n))) 103 s (E (24 + tN n))) := by
  have e : eF E s (nI 1) n (28 + s) = nI 1 := by rw [eF_28, if_neg (fun z => z.2 hn)]
  refine h.shelf hI hs (by rw [eH_1 e, eF_32, if_pos ⟨rfl, hn⟩]) (fun z => ?_) (fun _ => by rw [eF_36, if_pos ⟨rfl, hn⟩])
  rw [e] at z
  exact absurd z (by decide)

set_option maxRecDepth 20000 in
theorem c_under {d : Nat} {M : dk_Mem} {Q : Option Value → dk_Mem → Prop} {k a : Nat} (hk : k ≤ 5) (ha : a ≤ 5) (h1_h : sg_ub k a = true → Q (some (.int 1)) M) (h0_h : sg_ub k a = false → Q (some (.int 0)) M) : dk_Call d mX11_isOrIsUnder [.int (nI k), .int (nI a)] M Q := by
  refine dk_enter [some (.int (nI k)), some (.int (nI a))] (by decide) (fun _ => rfl) (fun _ => Nat.le_of_ble_eq_true rfl) ?_
  refine w_gets368 (n := 3) dX11_isOrIsUnder_0 rfl ?_
  refine w_il0 (n := 4) dX11_isOrIsUnder_3 rfl ?_
  refine w_sld_DominoKin (n := 5) (j := k) rfl (by omega) rfl dX11_isOrIsUnder_4 rfl ?_
  refine w_il1 (n := 6) dX11_isOrIsUnder_5 rfl ?_
  refine w_ishr (n := 7) dX11_isOrIsUnder_6 rfl ?_
  refine w_iconst (n := 8) (nI 1) dX11_isOrIsUnder_7 (by decide) rfl ?_
  refine w_iand (n := 9) dX11_isOrIsUnder_8 rfl ?_
  rw [q_under k (by omega) a (by omega)]
  refine w_if_eq (n := 12) 16 dX11_isOrIsUnder_9 (by decide) rfl (fun z9_h => ?_) (fun z9_h => ?_)
  · skip
    refine w_iconst (n := 17) (nI 0) dX11_isOrIsUnder_16 (by decide) rfl ?_
    refine w_retZ0 dX11_isOrIsUnder_17 rfl ?_
    refine h0_h ?_
    cases hb : sg_ub k a
    · rfl
    · rw [hb] at z9_h; exact absurd z9_h (by decide)
  · skip
    refine w_iconst (n := 13) (nI 1) dX11_isOrIsUnder_12 (by decide) rfl ?_
    refine w_goto 17 dX11_isOrIsUnder_13 (by decide) ?_
    refine w_retZ1 dX11_isOrIsUnder_17 rfl ?_
    refine h1_h ?_
    cases hb : sg_ub k a
    · rw [hb] at z9_h; exact absurd rfl z9_h
    · rfl

set_option maxRecDepth 20000 in
theorem c_put {d : Nat} {M : dk_Mem} {Q : Option Value → dk_Mem → Prop} {s : Nat} (hs : s < 4) {a b : Int32} (hq : Q (some (.int (nI 1))) (dk_put (dk_put M 102 s a) 103 s b)) : dk_Call d mX11_put [.ref 0, .int (nI s), .int a, .int b] M Q := by
  refine dk_enter [some (.ref 0), some (.int (nI s)), some (.int a), some (.int b)] (by decide) (fun _ => rfl) (fun _ => Nat.le_of_ble_eq_true rfl) ?_
  refine w_al0 (n := 1) dX11_put_0 rfl ?_
  refine g_R (n := 4) f_X11_96_11 pl_0 rf_0_14 dX11_put_1 rfl ?_
  refine w_il1 (n := 5) dX11_put_4 rfl ?_
  refine w_il2 (n := 6) dX11_put_5 rfl ?_
  refine i_iast (n := 7) pl_102 (j := s) rfl hs (by decide) dX11_put_6 rfl ?_
  refine w_al0 (n := 8) dX11_put_7 rfl ?_
  refine g_R (n := 11) f_X11_99_11 pl_0 rf_0_15 dX11_put_8 rfl ?_
  refine w_il1 (n := 12) dX11_put_11 rfl ?_
  refine w_il3 (n := 13) dX11_put_12 rfl ?_
  refine i_iast (n := 14) pl_103 (j := s) rfl hs (by decide) dX11_put_13 rfl ?_
  refine w_iconst (n := 15) (nI 1) dX11_put_14 (by decide) rfl ?_
  refine w_retI dX11_put_15 rfl ?_
  exact hq

set_option maxRecDepth 20000 in
theorem C_shelf {d : Nat} {M : dk_Mem} {Q : Option Value → dk_Mem → Prop} {K : sg_K} (hK : cK K M) {E : sg_E} (hE : cE E M) (hI : eI E) {s x n : Int32} (hq : ∀ M2, cE (ef_shelf K E s x n).2 M2 → dk_fr cXX M M2 → Q (some (.int (ef_shelf K E s x n).1)) M2) : dk_Call (d + 3) mX11_shelf [.ref 0, .int s, .int x, .int n] M Q := by
  have hK0 := hK
  obtain ⟨⟨o, p1_h, p2_h, p3_h⟩, hs, hc, hb, hcr, hsc, hz, β, hβ, hβ1, hβ2⟩ := hK0
  have o4_h := o.2.2.2.1
  have o16_h := o.2.1
  have hm : dk_mo 22 := Or.inl rfl
  refine dk_enter [some (.ref 0), some (.int s), some (.int x), some (.int n)] (by decide) (fun _ => rfl) (fun _ => Nat.le_of_ble_eq_true rfl) ?_
  refine w_il1 (n := 1) dX11_shelf_0 rfl ?_
  refine w_iconst (n := 2) (nI 0) dX11_shelf_1 (by decide) rfl ?_
  refine w_iconst (n := 3) (nI 3) dX11_shelf_2 (by decide) rfl ?_
  refine w_cS3 (n := 6) s0_X11_within k_X11_112 (Nat.le_of_ble_eq_true rfl) dX11_shelf_3 rfl (c_within (fun t3_h => ?_) (fun t3_h => ?_))
  · skip
    refine w_if_ne (n := 9) 11 dX11_shelf_6 (by decide) rfl (fun _ => ?_) (fun h => absurd h (by decide))
    have hw := tN_of (n := 3) (by decide) t3_h.1 t3_h.2
    have hcc := t3_h
    have es := hw.1
    have bs := hw.2
    have ets : tN s = tN s := rfl
    generalize hgs : tN s = s0_h at es bs hw
    subst es
    refine w_il2 (n := 12) dX11_shelf_11 rfl ?_
    by_cases hs12_0 : x = (nI 0)
    · first | subst hs12_0 | rw [hs12_0]
      refine w_tabIn 40 dX11_shelf_12 (by decide) (by decide) rfl (by decide) ?_
      refine w_al0 (n := 41) dX11_shelf_40 rfl ?_
      refine g_R (n := 44) f_X11_36_11 pl_0 rf_0_1 dX11_shelf_41 rfl ?_
      refine w_il3 (n := 45) dX11_shelf_44 rfl ?_
      refine w_cV1 (n := 48) pl_14 cl_10 s0_X10_isPiece k_X11_123 (Nat.le_of_ble_eq_true rfl) dX11_shelf_45 rfl (c10_isPiece hs o (fun h hh e => ?_) (fun nh => ?_))
      · skip
        have kp : sg_pc K.1 n ≠ none := by rw [e, sg_pc_some o4_h hh]; exact fun z => by cases z
        refine w_if_ne (n := 51) 53 dX11_shelf_48 (by decide) rfl (fun _ => ?_) (fun h => absurd h (by decide))
        refine w_al0 (n := 54) dX11_shelf_53 rfl ?_
        refine w_il1 (n := 55) dX11_shelf_54 rfl ?_
        refine w_iconst (n := 56) (nI 0) dX11_shelf_55 (by decide) rfl ?_
        refine w_il3 (n := 57) dX11_shelf_56 rfl ?_
        refine w_cV3 (n := 60) pl_0 cl_11 s0_X11_put k_X11_325 (Nat.le_of_ble_eq_true rfl) dX11_shelf_57 rfl (c_put (s := s0_h) (by omega) ?_)
        refine w_retI dX11_shelf_60 rfl ?_
        exact dk_fin hq ((if_pos ⟨hcc, by decide, fun _ => kp, fun z => absurd z (by decide)⟩).trans (by rw [hgs])) (hE.sh0 hI (by omega)) fX_shelf
      · skip
        have kn : sg_pc K.1 n = none := sg_pc_none o4_h nh
        refine w_if_ne (n := 51) 53 dX11_shelf_48 (by decide) rfl (fun h => absurd h (by decide)) (fun _ => ?_)
        refine w_iconst (n := 52) (-1) dX11_shelf_51 (by decide) rfl ?_
        refine w_retI dX11_shelf_52 rfl ?_
        exact dk_fin hq (if_neg (fun z => z.2.2.1 rfl kn)) hE dk_fr.rf
    by_cases hs12_1 : x = (nI 1)
    · first | subst hs12_1 | rw [hs12_1]
      refine w_tabIn 61 dX11_shelf_12 (by decide) (by decide) rfl (by decide) ?_
      refine w_il3 (n := 62) dX11_shelf_61 rfl ?_
      refine w_iconst (n := 63) (nI 0) dX11_shelf_62 (by decide) rfl ?_
      refine w_iconst (n := 64) (nI 3) dX11_shelf_63 (by decide) rfl ?_
      refine w_cS3 (n := 67) s0_X11_within k_X11_112 (Nat.le_of_ble_eq_true rfl) dX11_shelf_64 rfl (c_within (fun t64_h => ?_) (fun t64_h => ?_))
      · skip
        refine w_if_ne (n := 70) 72 dX11_shelf_67 (by decide) rfl (fun _ => ?_) (fun h => absurd h (by decide))
        have hn := tN_of (n := 3) (by decide) t64_h.1 t64_h.2
        have hsr := hI.srt (s := tN n) (by omega)
        refine w_al0 (n := 73) dX11_shelf_72 rfl ?_
        refine g_R (n := 76) f_X11_86_11 pl_0 rf_0_11 dX11_shelf_73 rfl ?_
        refine w_il3 (n := 77) dX11_shelf_76 rfl ?_
        refine i_iald (n := 78) pl_95 (j := tN n) hn.1 (by omega) (by decide) (hE.2.1 _ (by omega)).1 dX11_shelf_77 rfl ?_
        refine w_iconst (n := 79) (-1) dX11_shelf_78 (by decide) rfl ?_
        refine w_ic_ne (n := 82) 90 dX11_shelf_79 (by decide) rfl (fun z79_h => ?_) (fun z79_h => ?_)
        · skip
          refine w_al0 (n := 91) dX11_shelf_90 rfl ?_
          refine w_il1 (n := 92) dX11_shelf_91 rfl ?_
          refine w_bipush (n := 94) (nI 10) dX11_shelf_92 (by decide) rfl ?_
          refine w_al0 (n := 95) dX11_shelf_94 rfl ?_
          refine g_R (n := 98) f_X11_86_11 pl_0 rf_0_11 dX11_shelf_95 rfl ?_
          refine w_il3 (n := 99) dX11_shelf_98 rfl ?_
          refine i_iald (n := 100) pl_95 (j := tN n) hn.1 (by omega) (by decide) (hE.2.1 _ (by omega)).1 dX11_shelf_99 rfl ?_
          refine w_iadd (n := 101) dX11_shelf_100 rfl ?_
          refine w_al0 (n := 102) dX11_shelf_101 rfl ?_
          refine g_R (n := 105) f_X11_90_11 pl_0 rf_0_12 dX11_shelf_102 rfl ?_
          refine w_il3 (n := 106) dX11_shelf_105 rfl ?_
          refine i_iald (n := 107) pl_96 (j := tN n) hn.1 (by omega) (by decide) (hE.2.1 _ (by omega)).2.1 dX11_shelf_106 rfl ?_
          refine w_cV3 (n := 110) pl_0 cl_11 s0_X11_put k_X11_325 (Nat.le_of_ble_eq_true rfl) dX11_shelf_107 rfl (c_put (s := s0_h) (by omega) ?_)
          refine w_retI dX11_shelf_110 rfl ?_
          exact dk_fin hq ((if_pos ⟨hcc, by decide, fun z => absurd z (by decide), fun _ => t64_h⟩).trans (by rw [hgs])) (hE.sh1 hI (by omega) (by rcases hsr with y | y; exact absurd y.1 z79_h; exact y.2.1)) fX_shelf
        · skip
          refine w_al0 (n := 83) dX11_shelf_82 rfl ?_
          refine w_il1 (n := 84) dX11_shelf_83 rfl ?_
          refine w_iconst (n := 85) (-1) dX11_shelf_84 (by decide) rfl ?_
          refine w_iconst (n := 86) (nI 0) dX11_shelf_85 (by decide) rfl ?_
          refine w_cV3 (n := 89) pl_0 cl_11 s0_X11_put k_X11_325 (Nat.le_of_ble_eq_true rfl) dX11_shelf_86 rfl (c_put (s := s0_h) (by omega) ?_)
          refine w_retI dX11_shelf_89 rfl ?_
          exact dk_fin hq ((if_pos ⟨hcc, by decide, fun z => absurd z (by decide), fun _ => t64_h⟩).trans (by rw [hgs])) (hE.sh2 hI (by omega) (by rw [eF_28, if_pos ⟨rfl, fun z => by rcases hsr with y | y; exact absurd y.2 (Int32.not_lt.mpr z); exact absurd z79_h y.1⟩])) fX_shelf
      · skip
        refine w_if_ne (n := 70) 72 dX11_shelf_67 (by decide) rfl (fun h => absurd h (by decide)) (fun _ => ?_)
        refine w_iconst (n := 71) (-1) dX11_shelf_70 (by decide) rfl ?_
        refine w_retI dX11_shelf_71 rfl ?_
        exact dk_fin hq (if_neg (fun z => t64_h (z.2.2.2 rfl))) hE dk_fr.rf
    by_cases hs12_2 : x = (nI 2)
    · first | subst hs12_2 | rw [hs12_2]
      refine w_tabIn 111 dX11_shelf_12 (by decide) (by decide) rfl (by decide) ?_
      refine w_al0 (n := 112) dX11_shelf_111 rfl ?_
      refine w_il1 (n := 113) dX11_shelf_112 rfl ?_
      refine w_iconst (n := 114) (-1) dX11_shelf_113 (by decide) rfl ?_
      refine w_iconst (n := 115) (nI 0) dX11_shelf_114 (by decide) rfl ?_
      refine w_cV3 (n := 118) pl_0 cl_11 s0_X11_put k_X11_325 (Nat.le_of_ble_eq_true rfl) dX11_shelf_115 rfl (c_put (s := s0_h) (by omega) ?_)
      refine w_retI dX11_shelf_118 rfl ?_
      exact dk_fin hq ((if_pos ⟨hcc, by decide, fun z => absurd z (by decide), fun z => absurd z (by decide)⟩).trans (by rw [hgs])) (hE.sh2 hI (by omega) (by rw [eF_28, if_neg (fun z => absurd z.1 (by decide))])) fX_shelf
    refine w_tabOut 119 dX11_shelf_12 (dk_out3 hs12_0 hs12_1 hs12_2) (by decide) ?_
    refine w_iconst (n := 120) (-1) dX11_shelf_119 (by decide) rfl ?_
    refine w_retI dX11_shelf_120 rfl ?_
    exact dk_fin hq (if_neg (fun z => by have hx := tN_of (n := 2) (by decide) z.2.1.1 z.2.1.2; rcases (show tN x = 0 ∨ tN x = 1 ∨ tN x = 2 by omega) with e | e | e; exact hs12_0 (by rw [hx.1, e]); exact hs12_1 (by rw [hx.1, e]); exact hs12_2 (by rw [hx.1, e]))) hE dk_fr.rf
  · skip
    refine w_if_ne (n := 9) 11 dX11_shelf_6 (by decide) rfl (fun h => absurd h (by decide)) (fun _ => ?_)
    refine w_iconst (n := 10) (-1) dX11_shelf_9 (by decide) rfl ?_
    refine w_retI dX11_shelf_10 rfl ?_
    exact dk_fin hq (if_neg (fun z => t3_h z.1)) hE dk_fr.rf

set_option maxRecDepth 20000 in
theorem c_heldOn {d : Nat} {M : dk_Mem} {Q : Option Value → dk_Mem → Prop} {K : sg_K} (hK : cK K M) {E : sg_E} (hE : cE E M) (hI : eI E) {s : Nat} (hs4_h : s < 4) (h1_h : ∀ h, h < K.1 4 → eP K E s = some h → M.1 103 s = nI h → Q (some (.int 0)) M) (h2_h : eP K E s = none → E (28 + s) = nI 1 → M.1 103 s = E (36 + s) → Q (some (.int (nI 10 + E (32 + s)))) M) (h3_h : eP K E s = none → E (28 + s) ≠ nI 1 → Q (some (.int (-1))) M) : dk_Call (d + 1) mX11_heldOn [.ref 0, .int (nI s)] M Q := by
  have hK0 := hK
  obtain ⟨⟨o, p1_h, p2_h, p3_h⟩, hs, hc, hb, hcr, hsc, hz, β, hβ, hβ1, hβ2⟩ := hK0
  have o4_h := o.2.2.2.1
  have o16_h := o.2.1
  have hm : dk_mo 22 := Or.inl rfl
  have g := hE.2.2.1 s hs4_h
  have gz := eH_z hI hs4_h
  refine dk_enter [some (.ref 0), some (.int (nI s))] (by decide) (fun _ => rfl) (fun _ => Nat.le_of_ble_eq_true rfl) ?_
  refine w_al0 (n := 1) dX11_heldOn_0 rfl ?_
  refine g_R (n := 4) f_X11_96_11 pl_0 rf_0_14 dX11_heldOn_1 rfl ?_
  refine w_il1 (n := 5) dX11_heldOn_4 rfl ?_
  refine i_iald (n := 6) pl_102 (j := s) rfl hs4_h (by decide) g.1 dX11_heldOn_5 rfl ?_
  refine w_if_ne (n := 9) 27 dX11_heldOn_6 (by decide) rfl (fun z6_h => ?_) (fun z6_h => ?_)
  · skip
    refine w_al0 (n := 28) dX11_heldOn_27 rfl ?_
    refine g_R (n := 31) f_X11_96_11 pl_0 rf_0_14 dX11_heldOn_28 rfl ?_
    refine w_il1 (n := 32) dX11_heldOn_31 rfl ?_
    refine i_iald (n := 33) pl_102 (j := s) rfl hs4_h (by decide) g.1 dX11_heldOn_32 rfl ?_
    refine w_retI dX11_heldOn_33 rfl ?_
    first | (rw [z6_h]; exact h1_h h hh (by unfold eP; rw [if_pos (gz.mp z6_h), e, sg_pc_some o4_h hh]) ((g.2.1 (gz.mp z6_h)).trans e)) | (have nz : E (28 + s) ≠ 0 := fun z => z6_h (gz.mpr z); have np : eP K E s = none := (by unfold eP; rw [if_neg nz]); by_cases e1_h : E (28 + s) = nI 1; (rw [eH_1 e1_h]; exact h2_h np e1_h (g.2.2 e1_h)); (rw [eH_2 nz e1_h]; exact h3_h np e1_h))
  · skip
    refine w_al0 (n := 10) dX11_heldOn_9 rfl ?_
    refine g_R (n := 13) f_X11_36_11 pl_0 rf_0_1 dX11_heldOn_10 rfl ?_
    refine w_al0 (n := 14) dX11_heldOn_13 rfl ?_
    refine g_R (n := 17) f_X11_99_11 pl_0 rf_0_15 dX11_heldOn_14 rfl ?_
    refine w_il1 (n := 18) dX11_heldOn_17 rfl ?_
    refine i_iald (n := 19) pl_103 (j := s) rfl hs4_h (by decide) (g.2.1 (gz.mp z6_h)) dX11_heldOn_18 rfl ?_
    refine w_cV1 (n := 22) pl_14 cl_10 s0_X10_isPiece k_X11_123 (Nat.le_of_ble_eq_true rfl) dX11_heldOn_19 rfl (c10_isPiece hs o (fun h hh e => ?_) (fun nh => ?_))
    · skip
      refine w_if_ne (n := 25) 27 dX11_heldOn_22 (by decide) rfl (fun _ => ?_) (fun h => absurd h (by decide))
      refine w_al0 (n := 28) dX11_heldOn_27 rfl ?_
      refine g_R (n := 31) f_X11_96_11 pl_0 rf_0_14 dX11_heldOn_28 rfl ?_
      refine w_il1 (n := 32) dX11_heldOn_31 rfl ?_
      refine i_iald (n := 33) pl_102 (j := s) rfl hs4_h (by decide) g.1 dX11_heldOn_32 rfl ?_
      refine w_retI dX11_heldOn_33 rfl ?_
      first | (rw [z6_h]; exact h1_h h hh (by unfold eP; rw [if_pos (gz.mp z6_h), e, sg_pc_some o4_h hh]) ((g.2.1 (gz.mp z6_h)).trans e)) | (have nz : E (28 + s) ≠ 0 := fun z => z6_h (gz.mpr z); have np : eP K E s = none := (by unfold eP; rw [if_neg nz]); by_cases e1_h : E (28 + s) = nI 1; (rw [eH_1 e1_h]; exact h2_h np e1_h (g.2.2 e1_h)); (rw [eH_2 nz e1_h]; exact h3_h np e1_h))
    · skip
      refine w_if_ne (n := 25) 27 dX11_heldOn_22 (by decide) rfl (fun h => absurd h (by decide)) (fun _ => ?_)
      refine w_iconst (n := 26) (-1) dX11_heldOn_25 (by decide) rfl ?_
      refine w_retI dX11_heldOn_26 rfl ?_
      exact h3_h (by unfold eP; rw [if_pos (gz.mp z6_h), sg_pc_none o4_h nh]) (by rw [gz.mp z6_h]; decide)

theorem q_s6 {a : Int32} (h : a ≤ nI 5) : a < nI 6 := by
  have a1_h := Int32.le_iff_toInt_le.mp h
  apply Int32.lt_iff_toInt_lt.mpr
  have e5_h : (nI 5).toInt = 5 := by decide
  have e6_h : (nI 6).toInt = 6 := by decide
  omega
theorem q_s5 {a : Int32} (h : nI 5 < a) : nI 6 ≤ a := by
  have a1_h := Int32.lt_iff_toInt_lt.mp h
  apply Int32.le_iff_toInt_le.mpr
  have e5_h : (nI 5).toInt = 5 := by decide
  have e6_h : (nI 6).toInt = 6 := by decide
  omega

set_option maxRecDepth 20000 in
theorem c_tkR {d : Nat} {M : dk_Mem} {Q : Option Value → dk_Mem → Prop} {s0_h : Nat} (b8_h : s0_h < 4) {x y a : Int32} {x4_h : Option Value} (q1_h : x ≠ -1) (q2_h : x ≠ 0) (eh : M.1 103 s0_h = y) (h1_h : x = a → Q (some (.int y)) M) (h0_h : x ≠ a → Q (some (.int (-13))) M) : dk_W d mX11_taken 38 [some (.ref 0), some (.int (nI s0_h)), some (.int a), none, x4_h] [.int x] M Q := by
  refine w_is3 (n := 39) dX11_taken_38 rfl rfl (by decide) ?_
  refine w_il3 (n := 40) dX11_taken_39 rfl ?_
  refine w_iconst (n := 41) (-1) dX11_taken_40 (by decide) rfl ?_
  refine w_ic_ne (n := 44) 47 dX11_taken_41 (by decide) rfl (fun z41_h => ?_) (fun z41_h => ?_)
  · skip
    refine w_il3 (n := 48) dX11_taken_47 rfl ?_
    refine w_if_ne (n := 51) 89 dX11_taken_48 (by decide) rfl (fun z48_h => ?_) (fun z48_h => ?_)
    · skip
      refine w_il3 (n := 90) dX11_taken_89 rfl ?_
      refine w_il2 (n := 91) dX11_taken_90 rfl ?_
      refine w_ic_ne (n := 94) 103 dX11_taken_91 (by decide) rfl (fun z91_h => ?_) (fun z91_h => ?_)
      · skip
        refine w_bipush (n := 105) (-13) dX11_taken_103 (by decide) rfl ?_
        refine w_retI dX11_taken_105 rfl ?_
        exact h0_h z91_h
      · skip
        refine w_al0 (n := 95) dX11_taken_94 rfl ?_
        refine g_R (n := 98) f_X11_99_11 pl_0 rf_0_15 dX11_taken_95 rfl ?_
        refine w_il1 (n := 99) dX11_taken_98 rfl ?_
        refine i_iald (n := 100) pl_103 (j := s0_h) rfl b8_h (by decide) eh dX11_taken_99 rfl ?_
        refine w_goto 105 dX11_taken_100 (by decide) ?_
        refine w_retI dX11_taken_105 rfl ?_
        exact h1_h z91_h
    · skip
      exact absurd z48_h q2_h
  · skip
    exact absurd z41_h q1_h

set_option maxRecDepth 20000 in
theorem C_taken {d : Nat} {M : dk_Mem} {Q : Option Value → dk_Mem → Prop} {K : sg_K} (hK : cK K M) {E : sg_E} (hE : cE E M) (hI : eI E) {s a : Int32} (hq : ∀ M2, cE (ef_taken K E s a).2 M2 → dk_fr cXX M M2 → Q (some (.int (ef_taken K E s a).1)) M2) : dk_Call (d + 3) mX11_taken [.ref 0, .int s, .int a] M Q := by
  have hK0 := hK
  obtain ⟨⟨o, p1_h, p2_h, p3_h⟩, hs, hc, hb, hcr, hsc, hz, β, hβ, hβ1, hβ2⟩ := hK0
  have o4_h := o.2.2.2.1
  have o16_h := o.2.1
  have hm : dk_mo 22 := Or.inl rfl
  refine dk_enter [some (.ref 0), some (.int s), some (.int a), none, none] (by decide) (fun _ => rfl) (fun _ => Nat.le_of_ble_eq_true rfl) ?_
  refine w_il1 (n := 1) dX11_taken_0 rfl ?_
  refine w_iconst (n := 2) (nI 0) dX11_taken_1 (by decide) rfl ?_
  refine w_iconst (n := 3) (nI 3) dX11_taken_2 (by decide) rfl ?_
  refine w_cS3 (n := 6) s0_X11_within k_X11_112 (Nat.le_of_ble_eq_true rfl) dX11_taken_3 rfl (c_within (fun t3_h => ?_) (fun t3_h => ?_))
  · skip
    refine w_if_ne (n := 9) 11 dX11_taken_6 (by decide) rfl (fun _ => ?_) (fun h => absurd h (by decide))
    refine w_il2 (n := 12) dX11_taken_11 rfl ?_
    refine w_iconst (n := 13) (nI 0) dX11_taken_12 (by decide) rfl ?_
    refine w_iconst (n := 14) (nI 5) dX11_taken_13 (by decide) rfl ?_
    refine w_cS3 (n := 17) s0_X11_within k_X11_112 (Nat.le_of_ble_eq_true rfl) dX11_taken_14 rfl (c_within (fun t14_h => ?_) (fun t14_h => ?_))
    · skip
      refine w_if_ne (n := 20) 33 dX11_taken_17 (by decide) rfl (fun _ => ?_) (fun h => absurd h (by decide))
      have hw := tN_of (n := 3) (by decide) t3_h.1 t3_h.2
      have cc : (nI 0 ≤ s ∧ s ≤ nI 3) ∧ ((nI 0 ≤ a ∧ a ≤ nI 5) ∨ (nI 10 ≤ a ∧ a ≤ nI 14)) := ⟨t3_h, by first | exact Or.inl t14_h | exact Or.inr t25_h⟩
      have e9_h : ef_taken K E s a = ((match eP K E (tN s) with | some h => (if a < nI 6 ∧ sg_ub (K.1 (35 + 5 * h)) (tN a) = true then nI h else -13) | none => (if E (28 + tN s) = nI 1 then (if a = nI 10 + E (32 + tN s) then E (36 + tN s) else -13) else -11)), E) := congrArg (fun y => (y, E)) (if_pos cc)
      rw [e9_h] at hq
      clear e9_h
      have e8_h := hw.1
      have b8_h := hw.2
      generalize tN s = s0_h at *
      subst e8_h
      refine w_al0 (n := 34) dX11_taken_33 rfl ?_
      refine w_il1 (n := 35) dX11_taken_34 rfl ?_
      refine w_cV1 (n := 38) pl_0 cl_11 s0_X11_heldOn k_X11_328 (Nat.le_of_ble_eq_true rfl) dX11_taken_35 rfl (c_heldOn hK hE hI (s := s0_h) (by omega) (fun h hh ep eh => ?_) (fun ep e1_h eh => ?_) (fun ep e1_h => ?_))
      · skip
        have h6_h : h < 6 := by omega
        rw [ep] at hq
        dsimp only at hq
        refine w_is3 (n := 39) dX11_taken_38 rfl rfl (by decide) ?_
        refine w_il3 (n := 40) dX11_taken_39 rfl ?_
        refine w_iconst (n := 41) (-1) dX11_taken_40 (by decide) rfl ?_
        refine w_ic_ne (n := 44) 47 dX11_taken_41 (by decide) rfl (fun _ => ?_) (fun h => absurd h (by decide))
        refine w_il3 (n := 48) dX11_taken_47 rfl ?_
        refine w_if_ne (n := 51) 89 dX11_taken_48 (by decide) rfl (fun h => absurd h (by decide)) (fun _ => ?_)
        refine w_al0 (n := 52) dX11_taken_51 rfl ?_
        refine g_R (n := 55) f_X11_99_11 pl_0 rf_0_15 dX11_taken_52 rfl ?_
        refine w_il1 (n := 56) dX11_taken_55 rfl ?_
        refine i_iald (n := 57) pl_103 (j := s0_h) rfl (by omega) (by decide) eh dX11_taken_56 rfl ?_
        refine w_is4 (n := 59) dX11_taken_57 rfl rfl (by decide) ?_
        refine w_il2 (n := 60) dX11_taken_59 rfl ?_
        refine w_iconst (n := 61) (nI 5) dX11_taken_60 (by decide) rfl ?_
        refine w_ic_gt (n := 64) 86 dX11_taken_61 (by decide) rfl (fun z61_h => ?_) (fun z61_h => ?_)
        · skip
          refine w_bipush (n := 88) (-13) dX11_taken_86 (by decide) rfl ?_
          refine w_retI dX11_taken_88 rfl ?_
          first | exact dk_fin hq (congrArg (fun y => (y, E)) (if_neg (fun z => Int32.not_lt.mpr (q_s5 z61_h) z.1))) hE dk_fr.rf | exact dk_fin hq (congrArg (fun y => (y, E)) (if_neg (fun z => by rw [t75_h] at z; exact absurd z.2 (by decide)))) hE dk_fr.rf
        · skip
          have a6_h := tN_of (n := 5) (by decide) (show nI 0 ≤ a by rcases cc.2 with z | z; exact z.1; exact Int32.le_trans (by decide) z.1) (Int32.not_lt.mp z61_h)
          refine w_al0 (n := 65) dX11_taken_64 rfl ?_
          refine g_R (n := 68) f_X11_36_11 pl_0 rf_0_1 dX11_taken_65 rfl ?_
          refine g_R (n := 71) f_X11_130_10 pl_14 rf_14_2 dX11_taken_68 rfl ?_
          refine w_il4 (n := 73) dX11_taken_71 rfl ?_
          refine i_iald (n := 74) pl_15 (j := h) rfl h6_h (by decide) (hs.kind hh) dX11_taken_73 rfl ?_
          refine w_il2 (n := 75) dX11_taken_74 rfl ?_
          have ea : Value.int a = Value.int (nI (tN a)) := by rw [← a6_h.1]
          rw [ea]
          refine w_cS2 (n := 78) s0_X11_isOrIsUnder k_X11_331 (Nat.le_of_ble_eq_true rfl) dX11_taken_75 rfl (c_under (o.kind h6_h) a6_h.2 (fun t75_h => ?_) (fun t75_h => ?_))
          · skip
            refine w_if_eq (n := 81) 86 dX11_taken_78 (by decide) rfl (fun h => absurd h (by decide)) (fun _ => ?_)
            refine w_il4 (n := 83) dX11_taken_81 rfl ?_
            refine w_goto 88 dX11_taken_83 (by decide) ?_
            refine w_retI dX11_taken_88 rfl ?_
            exact dk_fin hq (congrArg (fun y => (y, E)) (if_pos ⟨q_s6 (Int32.not_lt.mp z61_h), t75_h⟩)) hE dk_fr.rf
          · skip
            refine w_if_eq (n := 81) 86 dX11_taken_78 (by decide) rfl (fun _ => ?_) (fun h => absurd (by decide) h)
            refine w_bipush (n := 88) (-13) dX11_taken_86 (by decide) rfl ?_
            refine w_retI dX11_taken_88 rfl ?_
            first | exact dk_fin hq (congrArg (fun y => (y, E)) (if_neg (fun z => Int32.not_lt.mpr (q_s5 z61_h) z.1))) hE dk_fr.rf | exact dk_fin hq (congrArg (fun y => (y, E)) (if_neg (fun z => by rw [t75_h] at z; exact absurd z.2 (by decide)))) hE dk_fr.rf
      · skip
        rw [ep] at hq
        dsimp only at hq
        have q10_h := q_10 hI (s := s0_h) (by omega) e1_h
        exact c_tkR (by omega) q10_h.1 q10_h.2 eh (fun z => dk_fin hq (congrArg (fun y => (y, E)) ((if_pos e1_h).trans (if_pos z.symm))) hE dk_fr.rf) (fun z => dk_fin hq (congrArg (fun y => (y, E)) ((if_pos e1_h).trans (if_neg (fun y => z y.symm)))) hE dk_fr.rf)
      · skip
        rw [ep] at hq
        dsimp only at hq
        refine w_is3 (n := 39) dX11_taken_38 rfl rfl (by decide) ?_
        refine w_il3 (n := 40) dX11_taken_39 rfl ?_
        refine w_iconst (n := 41) (-1) dX11_taken_40 (by decide) rfl ?_
        refine w_ic_ne (n := 44) 47 dX11_taken_41 (by decide) rfl (fun h => absurd h (by decide)) (fun _ => ?_)
        refine w_bipush (n := 46) (-11) dX11_taken_44 (by decide) rfl ?_
        refine w_retI dX11_taken_46 rfl ?_
        exact dk_fin hq (congrArg (fun y => (y, E)) (if_neg e1_h)) hE dk_fr.rf
    · skip
      refine w_if_ne (n := 20) 33 dX11_taken_17 (by decide) rfl (fun h => absurd h (by decide)) (fun _ => ?_)
      refine w_il2 (n := 21) dX11_taken_20 rfl ?_
      refine w_bipush (n := 23) (nI 10) dX11_taken_21 (by decide) rfl ?_
      refine w_bipush (n := 25) (nI 14) dX11_taken_23 (by decide) rfl ?_
      refine w_cS3 (n := 28) s0_X11_within k_X11_112 (Nat.le_of_ble_eq_true rfl) dX11_taken_25 rfl (c_within (fun t25_h => ?_) (fun t25_h => ?_))
      · skip
        refine w_if_ne (n := 31) 33 dX11_taken_28 (by decide) rfl (fun _ => ?_) (fun h => absurd h (by decide))
        have hw := tN_of (n := 3) (by decide) t3_h.1 t3_h.2
        have cc : (nI 0 ≤ s ∧ s ≤ nI 3) ∧ ((nI 0 ≤ a ∧ a ≤ nI 5) ∨ (nI 10 ≤ a ∧ a ≤ nI 14)) := ⟨t3_h, by first | exact Or.inl t14_h | exact Or.inr t25_h⟩
        have e9_h : ef_taken K E s a = ((match eP K E (tN s) with | some h => (if a < nI 6 ∧ sg_ub (K.1 (35 + 5 * h)) (tN a) = true then nI h else -13) | none => (if E (28 + tN s) = nI 1 then (if a = nI 10 + E (32 + tN s) then E (36 + tN s) else -13) else -11)), E) := congrArg (fun y => (y, E)) (if_pos cc)
        rw [e9_h] at hq
        clear e9_h
        have e8_h := hw.1
        have b8_h := hw.2
        generalize tN s = s0_h at *
        subst e8_h
        refine w_al0 (n := 34) dX11_taken_33 rfl ?_
        refine w_il1 (n := 35) dX11_taken_34 rfl ?_
        refine w_cV1 (n := 38) pl_0 cl_11 s0_X11_heldOn k_X11_328 (Nat.le_of_ble_eq_true rfl) dX11_taken_35 rfl (c_heldOn hK hE hI (s := s0_h) (by omega) (fun h hh ep eh => ?_) (fun ep e1_h eh => ?_) (fun ep e1_h => ?_))
        · skip
          have h6_h : h < 6 := by omega
          rw [ep] at hq
          dsimp only at hq
          refine w_is3 (n := 39) dX11_taken_38 rfl rfl (by decide) ?_
          refine w_il3 (n := 40) dX11_taken_39 rfl ?_
          refine w_iconst (n := 41) (-1) dX11_taken_40 (by decide) rfl ?_
          refine w_ic_ne (n := 44) 47 dX11_taken_41 (by decide) rfl (fun _ => ?_) (fun h => absurd h (by decide))
          refine w_il3 (n := 48) dX11_taken_47 rfl ?_
          refine w_if_ne (n := 51) 89 dX11_taken_48 (by decide) rfl (fun h => absurd h (by decide)) (fun _ => ?_)
          refine w_al0 (n := 52) dX11_taken_51 rfl ?_
          refine g_R (n := 55) f_X11_99_11 pl_0 rf_0_15 dX11_taken_52 rfl ?_
          refine w_il1 (n := 56) dX11_taken_55 rfl ?_
          refine i_iald (n := 57) pl_103 (j := s0_h) rfl (by omega) (by decide) eh dX11_taken_56 rfl ?_
          refine w_is4 (n := 59) dX11_taken_57 rfl rfl (by decide) ?_
          refine w_il2 (n := 60) dX11_taken_59 rfl ?_
          refine w_iconst (n := 61) (nI 5) dX11_taken_60 (by decide) rfl ?_
          refine w_ic_gt (n := 64) 86 dX11_taken_61 (by decide) rfl (fun z61_h => ?_) (fun z61_h => ?_)
          · skip
            refine w_bipush (n := 88) (-13) dX11_taken_86 (by decide) rfl ?_
            refine w_retI dX11_taken_88 rfl ?_
            first | exact dk_fin hq (congrArg (fun y => (y, E)) (if_neg (fun z => Int32.not_lt.mpr (q_s5 z61_h) z.1))) hE dk_fr.rf | exact dk_fin hq (congrArg (fun y => (y, E)) (if_neg (fun z => by rw [t75_h] at z; exact absurd z.2 (by decide)))) hE dk_fr.rf
          · skip
            have a6_h := tN_of (n := 5) (by decide) (show nI 0 ≤ a by rcases cc.2 with z | z; exact z.1; exact Int32.le_trans (by decide) z.1) (Int32.not_lt.mp z61_h)
            refine w_al0 (n := 65) dX11_taken_64 rfl ?_
            refine g_R (n := 68) f_X11_36_11 pl_0 rf_0_1 dX11_taken_65 rfl ?_
            refine g_R (n := 71) f_X11_130_10 pl_14 rf_14_2 dX11_taken_68 rfl ?_
            refine w_il4 (n := 73) dX11_taken_71 rfl ?_
            refine i_iald (n := 74) pl_15 (j := h) rfl h6_h (by decide) (hs.kind hh) dX11_taken_73 rfl ?_
            refine w_il2 (n := 75) dX11_taken_74 rfl ?_
            have ea : Value.int a = Value.int (nI (tN a)) := by rw [← a6_h.1]
            rw [ea]
            refine w_cS2 (n := 78) s0_X11_isOrIsUnder k_X11_331 (Nat.le_of_ble_eq_true rfl) dX11_taken_75 rfl (c_under (o.kind h6_h) a6_h.2 (fun t75_h => ?_) (fun t75_h => ?_))
            · skip
              refine w_if_eq (n := 81) 86 dX11_taken_78 (by decide) rfl (fun h => absurd h (by decide)) (fun _ => ?_)
              refine w_il4 (n := 83) dX11_taken_81 rfl ?_
              refine w_goto 88 dX11_taken_83 (by decide) ?_
              refine w_retI dX11_taken_88 rfl ?_
              exact dk_fin hq (congrArg (fun y => (y, E)) (if_pos ⟨q_s6 (Int32.not_lt.mp z61_h), t75_h⟩)) hE dk_fr.rf
            · skip
              refine w_if_eq (n := 81) 86 dX11_taken_78 (by decide) rfl (fun _ => ?_) (fun h => absurd (by decide) h)
              refine w_bipush (n := 88) (-13) dX11_taken_86 (by decide) rfl ?_
              refine w_retI dX11_taken_88 rfl ?_
              first | exact dk_fin hq (congrArg (fun y => (y, E)) (if_neg (fun z => Int32.not_lt.mpr (q_s5 z61_h) z.1))) hE dk_fr.rf | exact dk_fin hq (congrArg (fun y => (y, E)) (if_neg (fun z => by rw [t75_h] at z; exact absurd z.2 (by decide)))) hE dk_fr.rf
        · skip
          rw [ep] at hq
          dsimp only at hq
          have q10_h := q_10 hI (s := s0_h) (by omega) e1_h
          exact c_tkR (by omega) q10_h.1 q10_h.2 eh (fun z => dk_fin hq (congrArg (fun y => (y, E)) ((if_pos e1_h).trans (if_pos z.symm))) hE dk_fr.rf) (fun z => dk_fin hq (congrArg (fun y => (y, E)) ((if_pos e1_h).trans (if_neg (fun y => z y.symm)))) hE dk_fr.rf)
        · skip
          rw [ep] at hq
          dsimp only at hq
          refine w_is3 (n := 39) dX11_taken_38 rfl rfl (by decide) ?_
          refine w_il3 (n := 40) dX11_taken_39 rfl ?_
          refine w_iconst (n := 41) (-1) dX11_taken_40 (by decide) rfl ?_
          refine w_ic_ne (n := 44) 47 dX11_taken_41 (by decide) rfl (fun h => absurd h (by decide)) (fun _ => ?_)
          refine w_bipush (n := 46) (-11) dX11_taken_44 (by decide) rfl ?_
          refine w_retI dX11_taken_46 rfl ?_
          exact dk_fin hq (congrArg (fun y => (y, E)) (if_neg e1_h)) hE dk_fr.rf
      · skip
        refine w_if_ne (n := 31) 33 dX11_taken_28 (by decide) rfl (fun h => absurd h (by decide)) (fun _ => ?_)
        refine w_iconst (n := 32) (-1) dX11_taken_31 (by decide) rfl ?_
        refine w_retI dX11_taken_32 rfl ?_
        exact dk_fin hq (congrArg (fun y => (y, E)) (if_neg (fun z => by rcases z.2 with z | z; exact t14_h z; exact t25_h z))) hE dk_fr.rf
  · skip
    refine w_if_ne (n := 9) 11 dX11_taken_6 (by decide) rfl (fun h => absurd h (by decide)) (fun _ => ?_)
    refine w_iconst (n := 10) (-1) dX11_taken_9 (by decide) rfl ?_
    refine w_retI dX11_taken_10 rfl ?_
    exact dk_fin hq (congrArg (fun y => (y, E)) (if_neg (fun z => t3_h z.1))) hE dk_fr.rf

set_option maxRecDepth 20000 in
theorem C_row {d : Nat} {M : dk_Mem} {Q : Option Value → dk_Mem → Prop} {E : sg_E} (hE : cE E M) (hI : eI E) {k x : Int32} (hq : ∀ M2, cE (ef_row E k x).2 M2 → dk_fr cXX M M2 → Q (some (.int (ef_row E k x).1)) M2) : dk_Call (d + 2) mX11_row [.ref 0, .int k, .int x] M Q := by
  refine dk_enter [some (.ref 0), some (.int k), some (.int x)] (by decide) (fun _ => rfl) (fun _ => Nat.le_of_ble_eq_true rfl) ?_
  refine w_il1 (n := 1) dX11_row_0 rfl ?_
  refine w_iconst (n := 2) (nI 0) dX11_row_1 (by decide) rfl ?_
  refine w_al0 (n := 3) dX11_row_2 rfl ?_
  refine g_I (n := 6) f_X11_83_11 pl_0 dX11_row_3 rfl ?_
  rw [hE.1.1]
  refine w_iconst (n := 7) (nI 1) dX11_row_6 (by decide) rfl ?_
  refine w_isub (n := 8) dX11_row_7 rfl ?_
  refine w_cS3 (n := 11) s0_X11_within k_X11_112 (Nat.le_of_ble_eq_true rfl) dX11_row_8 rfl (c_within (fun t8_h => ?_) (fun t8_h => ?_))
  · skip
    refine w_if_eq (n := 14) 23 dX11_row_11 (by decide) rfl (fun h => absurd h (by decide)) (fun _ => ?_)
    refine w_il2 (n := 15) dX11_row_14 rfl ?_
    refine w_iconst (n := 16) (nI 0) dX11_row_15 (by decide) rfl ?_
    refine w_iconst (n := 17) (nI 2) dX11_row_16 (by decide) rfl ?_
    refine w_cS3 (n := 20) s0_X11_within k_X11_112 (Nat.le_of_ble_eq_true rfl) dX11_row_17 rfl (c_within (fun t17_h => ?_) (fun t17_h => ?_))
    · skip
      refine w_if_ne (n := 23) 26 dX11_row_20 (by decide) rfl (fun _ => ?_) (fun h => absurd h (by decide))
      have hk := hI.1.in (by decide) t8_h.1 t8_h.2
      have hx := tN_of (n := 2) (by decide) t17_h.1 t17_h.2
      have sl := sl_ar (tN k) (by omega)
      refine w_al0 (n := 27) dX11_row_26 rfl ?_
      refine g_R (n := 30) f_X11_80_11 pl_0 rf_0_9 dX11_row_27 rfl ?_
      refine w_il1 (n := 31) dX11_row_30 rfl ?_
      refine i_aaldI (n := 32) pl_90 (j := tN k) hk.1 (by omega) (by decide) sl.2.2.2 dX11_row_31 rfl ?_
      refine w_il2 (n := 33) dX11_row_32 rfl ?_
      refine i_iald (n := 34) sl.2.1 (j := tN x) hx.1 (by omega) (by decide) (hE.1.2 _ (by omega) _ (by omega)) dX11_row_33 rfl ?_
      refine w_retI dX11_row_34 rfl ?_
      exact dk_fin hq (congrArg (fun y => (y, E)) (if_pos ⟨t8_h, t17_h⟩)) hE dk_fr.rf
    · skip
      refine w_if_ne (n := 23) 26 dX11_row_20 (by decide) rfl (fun h => absurd h (by decide)) (fun _ => ?_)
      refine w_bipush (n := 25) (-9) dX11_row_23 (by decide) rfl ?_
      refine w_retI dX11_row_25 rfl ?_
      exact dk_fin hq (congrArg (fun y => (y, E)) (if_neg (fun z => by first | exact t8_h z.1 | exact t17_h z.2))) hE dk_fr.rf
  · skip
    refine w_if_eq (n := 14) 23 dX11_row_11 (by decide) rfl (fun _ => ?_) (fun h => absurd (by decide) h)
    refine w_bipush (n := 25) (-9) dX11_row_23 (by decide) rfl ?_
    refine w_retI dX11_row_25 rfl ?_
    exact dk_fin hq (congrArg (fun y => (y, E)) (if_neg (fun z => by first | exact t8_h z.1 | exact t17_h z.2))) hE dk_fr.rf

theorem cE.row {E : sg_E} {M : dk_Mem} (hI : eI E) (h : cE E M) {k x : Nat} (hk : k < 4) (hx : x < 3) {v : Int32} : cE (eU E (1 + (3 * k + x)) v) (dk_put M (91 + k) x v) := by
  have em : ∀ q j, q ≠ 91 + k → (dk_put M (91 + k) x v).1 q j = M.1 q j := fun q j a => dk_put_k (by omega)
  refine ⟨⟨by rw [em _ _ (by omega), eU_n (by omega)]; exact h.1.1, fun i hi w hw => ?_⟩, h.2.1.fr (fun j hj => eU_n (by omega)) (fun q k z => em q k (by omega)), h.2.2.1.fr (fun j hj => eU_n (by omega)) (fun q k z => em q k (by omega)), h.2.2.2.1.fr hI (fun j hj => eU_n (by omega)) (fun q k z => em q k (by omega)), h.2.2.2.2.fr hI (fun j hj => eU_n (by omega)) (fun q k z => em q k (by omega))⟩
  rw [eU_n (by omega)] at hi
  by_cases e : i = k ∧ w = x
  · rw [e.1, e.2, dk_put_s, eU_s]
  · rw [dk_put_k (by omega), eU_n (by omega)]; exact h.1.2 i hi w hw

set_option maxRecDepth 20000 in
theorem C_alterRow {d : Nat} {M : dk_Mem} {Q : Option Value → dk_Mem → Prop} {E : sg_E} (hE : cE E M) (hI : eI E) {k x v : Int32} (hq : ∀ M2, cE (ef_alter E k x v).2 M2 → dk_fr cXX M M2 → Q (some (.int (ef_alter E k x v).1)) M2) : dk_Call (d + 2) mX11_alterRow [.ref 0, .int k, .int x, .int v] M Q := by
  refine dk_enter [some (.ref 0), some (.int k), some (.int x), some (.int v)] (by decide) (fun _ => rfl) (fun _ => Nat.le_of_ble_eq_true rfl) ?_
  refine w_il1 (n := 1) dX11_alterRow_0 rfl ?_
  refine w_iconst (n := 2) (nI 0) dX11_alterRow_1 (by decide) rfl ?_
  refine w_al0 (n := 3) dX11_alterRow_2 rfl ?_
  refine g_I (n := 6) f_X11_83_11 pl_0 dX11_alterRow_3 rfl ?_
  rw [hE.1.1]
  refine w_iconst (n := 7) (nI 1) dX11_alterRow_6 (by decide) rfl ?_
  refine w_isub (n := 8) dX11_alterRow_7 rfl ?_
  refine w_cS3 (n := 11) s0_X11_within k_X11_112 (Nat.le_of_ble_eq_true rfl) dX11_alterRow_8 rfl (c_within (fun t8_h => ?_) (fun t8_h => ?_))
  · skip
    refine w_if_eq (n := 14) 23 dX11_alterRow_11 (by decide) rfl (fun h => absurd h (by decide)) (fun _ => ?_)
    refine w_il2 (n := 15) dX11_alterRow_14 rfl ?_
    refine w_iconst (n := 16) (nI 0) dX11_alterRow_15 (by decide) rfl ?_
    refine w_iconst (n := 17) (nI 2) dX11_alterRow_16 (by decide) rfl ?_
    refine w_cS3 (n := 20) s0_X11_within k_X11_112 (Nat.le_of_ble_eq_true rfl) dX11_alterRow_17 rfl (c_within (fun t17_h => ?_) (fun t17_h => ?_))
    · skip
      refine w_if_ne (n := 23) 26 dX11_alterRow_20 (by decide) rfl (fun _ => ?_) (fun h => absurd h (by decide))
      have hk := hI.1.in (by decide) t8_h.1 t8_h.2
      have hx := tN_of (n := 2) (by decide) t17_h.1 t17_h.2
      have sl := sl_ar (tN k) (by omega)
      refine w_al0 (n := 27) dX11_alterRow_26 rfl ?_
      refine g_R (n := 30) f_X11_80_11 pl_0 rf_0_9 dX11_alterRow_27 rfl ?_
      refine w_il1 (n := 31) dX11_alterRow_30 rfl ?_
      refine i_aaldI (n := 32) pl_90 (j := tN k) hk.1 (by omega) (by decide) sl.2.2.2 dX11_alterRow_31 rfl ?_
      refine w_il2 (n := 33) dX11_alterRow_32 rfl ?_
      refine w_il3 (n := 34) dX11_alterRow_33 rfl ?_
      have ex : Value.int x = Value.int (nI (tN x)) := by rw [← hx.1]
      rw [ex]
      refine w_cS3 (n := 37) s0_X11_replace k_X11_162 (Nat.le_of_ble_eq_true rfl) dX11_alterRow_34 rfl (c_replace sl.2.1 (by omega) (by decide) (hE.1.2 _ (by omega) _ (by omega)) ?_)
      refine w_retI dX11_alterRow_37 rfl ?_
      exact dk_fin hq (if_pos ⟨t8_h, t17_h⟩) (hE.row hI (by omega) (by omega)) (dk_fr.rf.put (by unfold cXX; omega))
    · skip
      refine w_if_ne (n := 23) 26 dX11_alterRow_20 (by decide) rfl (fun h => absurd h (by decide)) (fun _ => ?_)
      refine w_bipush (n := 25) (-9) dX11_alterRow_23 (by decide) rfl ?_
      refine w_retI dX11_alterRow_25 rfl ?_
      exact dk_fin hq (if_neg (fun z => by first | exact t8_h z.1 | exact t17_h z.2)) hE dk_fr.rf
  · skip
    refine w_if_eq (n := 14) 23 dX11_alterRow_11 (by decide) rfl (fun _ => ?_) (fun h => absurd (by decide) h)
    refine w_bipush (n := 25) (-9) dX11_alterRow_23 (by decide) rfl ?_
    refine w_retI dX11_alterRow_25 rfl ?_
    exact dk_fin hq (if_neg (fun z => by first | exact t8_h z.1 | exact t17_h z.2)) hE dk_fr.rf

set_option maxRecDepth 20000 in
theorem c_trace0 {d : Nat} {M : dk_Mem} {Q : Option Value → dk_Mem → Prop} {E : sg_E} (hE : cE E M) (hI : eI E) (g1_h : M.1 0 16 = nI 2) (g2_h : M.1 2 1 = E 40) (g3_h : ∀ i, i < tN (E 40) → M.1 3 i = E (41 + i)) {i : Int32} (hq : ∀ M2, cE (ef_trace E i).2 M2 → dk_fr cXX M M2 → Q (some (.int (ef_trace E i).1)) M2) : dk_Call (d + 1) mX11_trace [.ref 0, .int i] M Q := by
  refine dk_enter [some (.ref 0), some (.int i)] (by decide) (fun _ => rfl) (fun _ => Nat.le_of_ble_eq_true rfl) ?_
  refine w_al0 (n := 1) dX11_trace_0 rfl ?_
  refine g_M (n := 4) f_X11_102_11 pl_0 (dk_ref_i g1_h (by decide)) dX11_trace_1 rfl ?_
  refine w_ifnullR (n := 7) dX11_trace_4 rfl ?_
  refine w_il1 (n := 8) dX11_trace_7 rfl ?_
  refine w_iconst (n := 9) (nI 0) dX11_trace_8 (by decide) rfl ?_
  refine w_al0 (n := 10) dX11_trace_9 rfl ?_
  refine g_M (n := 13) f_X11_102_11 pl_0 (dk_ref_i g1_h (by decide)) dX11_trace_10 rfl ?_
  refine g_I (n := 16) f_X11_354_5 pl_2 dX11_trace_13 rfl ?_
  rw [g2_h]
  refine w_iconst (n := 17) (nI 1) dX11_trace_16 (by decide) rfl ?_
  refine w_isub (n := 18) dX11_trace_17 rfl ?_
  refine w_cS3 (n := 21) s0_X11_within k_X11_112 (Nat.le_of_ble_eq_true rfl) dX11_trace_18 rfl (c_within (fun t18_h => ?_) (fun t18_h => ?_))
  · skip
    refine w_if_ne (n := 24) 27 dX11_trace_21 (by decide) rfl (fun _ => ?_) (fun h => absurd h (by decide))
    have hi := hI.2.2.1.in (by decide) t18_h.1 t18_h.2
    refine w_al0 (n := 28) dX11_trace_27 rfl ?_
    refine g_M (n := 31) f_X11_102_11 pl_0 (dk_ref_i g1_h (by decide)) dX11_trace_28 rfl ?_
    refine g_R (n := 34) f_X11_357_5 pl_2 rf_2_0 dX11_trace_31 rfl ?_
    refine w_il1 (n := 35) dX11_trace_34 rfl ?_
    refine i_iald (n := 36) pl_3 (j := tN i) hi.1 (by omega) (by decide) (g3_h _ (by omega)) dX11_trace_35 rfl ?_
    refine w_retI dX11_trace_36 rfl ?_
    exact dk_fin hq (congrArg (fun y => (y, E)) (if_pos t18_h)) hE dk_fr.rf
  · skip
    refine w_if_ne (n := 24) 27 dX11_trace_21 (by decide) rfl (fun h => absurd h (by decide)) (fun _ => ?_)
    refine w_bipush (n := 26) (-3) dX11_trace_24 (by decide) rfl ?_
    refine w_retI dX11_trace_26 rfl ?_
    exact dk_fin hq (congrArg (fun y => (y, E)) (if_neg t18_h)) hE dk_fr.rf

set_option maxRecDepth 20000 in
theorem c_many0 {d : Nat} {M : dk_Mem} {Q : Option Value → dk_Mem → Prop} {E : sg_E} (g1_h : M.1 0 16 = nI 2) (g2_h : M.1 2 1 = E 40) (hq : Q (some (.int (E 40))) M) : dk_Call (d + 1) mX11_many [.ref 0, .int (nI 6)] M Q := by
  refine dk_enter [some (.ref 0), some (.int (nI 6))] (by decide) (fun _ => rfl) (fun _ => Nat.le_of_ble_eq_true rfl) ?_
  refine w_il1 (n := 1) dX11_many_0 rfl ?_
  refine w_tabIn 98 dX11_many_1 (by decide) (by decide) rfl (by decide) ?_
  refine w_al0 (n := 99) dX11_many_98 rfl ?_
  refine g_M (n := 102) f_X11_102_11 pl_0 (dk_ref_i g1_h (by decide)) dX11_many_99 rfl ?_
  refine w_ifnonnullR 109 dX11_many_102 (by decide) ?_
  refine w_al0 (n := 110) dX11_many_109 rfl ?_
  refine g_M (n := 113) f_X11_102_11 pl_0 (dk_ref_i g1_h (by decide)) dX11_many_110 rfl ?_
  refine g_I (n := 116) f_X11_354_5 pl_2 dX11_many_113 rfl ?_
  rw [g2_h]
  refine w_retI dX11_many_116 rfl ?_
  exact hq

set_option maxRecDepth 20000 in
theorem c_trace1 {d : Nat} {M : dk_Mem} {Q : Option Value → dk_Mem → Prop} {E : sg_E} (hE : cE E M) (hI : eI E) (g1_h : M.1 0 16 = nI 4) (g2_h : M.1 4 1 = E 40) (g3_h : ∀ i, i < tN (E 40) → M.1 5 i = E (41 + i)) {i : Int32} (hq : ∀ M2, cE (ef_trace E i).2 M2 → dk_fr cXX M M2 → Q (some (.int (ef_trace E i).1)) M2) : dk_Call (d + 1) mX11_trace [.ref 0, .int i] M Q := by
  refine dk_enter [some (.ref 0), some (.int i)] (by decide) (fun _ => rfl) (fun _ => Nat.le_of_ble_eq_true rfl) ?_
  refine w_al0 (n := 1) dX11_trace_0 rfl ?_
  refine g_M (n := 4) f_X11_102_11 pl_0 (dk_ref_i g1_h (by decide)) dX11_trace_1 rfl ?_
  refine w_ifnullR (n := 7) dX11_trace_4 rfl ?_
  refine w_il1 (n := 8) dX11_trace_7 rfl ?_
  refine w_iconst (n := 9) (nI 0) dX11_trace_8 (by decide) rfl ?_
  refine w_al0 (n := 10) dX11_trace_9 rfl ?_
  refine g_M (n := 13) f_X11_102_11 pl_0 (dk_ref_i g1_h (by decide)) dX11_trace_10 rfl ?_
  refine g_I (n := 16) f_X11_354_0 pl_4 dX11_trace_13 rfl ?_
  rw [g2_h]
  refine w_iconst (n := 17) (nI 1) dX11_trace_16 (by decide) rfl ?_
  refine w_isub (n := 18) dX11_trace_17 rfl ?_
  refine w_cS3 (n := 21) s0_X11_within k_X11_112 (Nat.le_of_ble_eq_true rfl) dX11_trace_18 rfl (c_within (fun t18_h => ?_) (fun t18_h => ?_))
  · skip
    refine w_if_ne (n := 24) 27 dX11_trace_21 (by decide) rfl (fun _ => ?_) (fun h => absurd h (by decide))
    have hi := hI.2.2.1.in (by decide) t18_h.1 t18_h.2
    refine w_al0 (n := 28) dX11_trace_27 rfl ?_
    refine g_M (n := 31) f_X11_102_11 pl_0 (dk_ref_i g1_h (by decide)) dX11_trace_28 rfl ?_
    refine g_R (n := 34) f_X11_357_0 pl_4 rf_4_0 dX11_trace_31 rfl ?_
    refine w_il1 (n := 35) dX11_trace_34 rfl ?_
    refine i_iald (n := 36) pl_5 (j := tN i) hi.1 (by omega) (by decide) (g3_h _ (by omega)) dX11_trace_35 rfl ?_
    refine w_retI dX11_trace_36 rfl ?_
    exact dk_fin hq (congrArg (fun y => (y, E)) (if_pos t18_h)) hE dk_fr.rf
  · skip
    refine w_if_ne (n := 24) 27 dX11_trace_21 (by decide) rfl (fun h => absurd h (by decide)) (fun _ => ?_)
    refine w_bipush (n := 26) (-3) dX11_trace_24 (by decide) rfl ?_
    refine w_retI dX11_trace_26 rfl ?_
    exact dk_fin hq (congrArg (fun y => (y, E)) (if_neg t18_h)) hE dk_fr.rf

set_option maxRecDepth 20000 in
theorem c_many1 {d : Nat} {M : dk_Mem} {Q : Option Value → dk_Mem → Prop} {E : sg_E} (g1_h : M.1 0 16 = nI 4) (g2_h : M.1 4 1 = E 40) (hq : Q (some (.int (E 40))) M) : dk_Call (d + 1) mX11_many [.ref 0, .int (nI 6)] M Q := by
  refine dk_enter [some (.ref 0), some (.int (nI 6))] (by decide) (fun _ => rfl) (fun _ => Nat.le_of_ble_eq_true rfl) ?_
  refine w_il1 (n := 1) dX11_many_0 rfl ?_
  refine w_tabIn 98 dX11_many_1 (by decide) (by decide) rfl (by decide) ?_
  refine w_al0 (n := 99) dX11_many_98 rfl ?_
  refine g_M (n := 102) f_X11_102_11 pl_0 (dk_ref_i g1_h (by decide)) dX11_many_99 rfl ?_
  refine w_ifnonnullR 109 dX11_many_102 (by decide) ?_
  refine w_al0 (n := 110) dX11_many_109 rfl ?_
  refine g_M (n := 113) f_X11_102_11 pl_0 (dk_ref_i g1_h (by decide)) dX11_many_110 rfl ?_
  refine g_I (n := 116) f_X11_354_0 pl_4 dX11_many_113 rfl ?_
  rw [g2_h]
  refine w_retI dX11_many_116 rfl ?_
  exact hq

set_option maxRecDepth 20000 in
theorem c_trace2 {d : Nat} {M : dk_Mem} {Q : Option Value → dk_Mem → Prop} {E : sg_E} (hE : cE E M) (hI : eI E) (g1_h : M.1 0 16 = nI 6) (g2_h : M.1 6 1 = E 40) (g3_h : ∀ i, i < tN (E 40) → M.1 7 i = E (41 + i)) {i : Int32} (hq : ∀ M2, cE (ef_trace E i).2 M2 → dk_fr cXX M M2 → Q (some (.int (ef_trace E i).1)) M2) : dk_Call (d + 1) mX11_trace [.ref 0, .int i] M Q := by
  refine dk_enter [some (.ref 0), some (.int i)] (by decide) (fun _ => rfl) (fun _ => Nat.le_of_ble_eq_true rfl) ?_
  refine w_al0 (n := 1) dX11_trace_0 rfl ?_
  refine g_M (n := 4) f_X11_102_11 pl_0 (dk_ref_i g1_h (by decide)) dX11_trace_1 rfl ?_
  refine w_ifnullR (n := 7) dX11_trace_4 rfl ?_
  refine w_il1 (n := 8) dX11_trace_7 rfl ?_
  refine w_iconst (n := 9) (nI 0) dX11_trace_8 (by decide) rfl ?_
  refine w_al0 (n := 10) dX11_trace_9 rfl ?_
  refine g_M (n := 13) f_X11_102_11 pl_0 (dk_ref_i g1_h (by decide)) dX11_trace_10 rfl ?_
  refine g_I (n := 16) f_X11_354_2 pl_6 dX11_trace_13 rfl ?_
  rw [g2_h]
  refine w_iconst (n := 17) (nI 1) dX11_trace_16 (by decide) rfl ?_
  refine w_isub (n := 18) dX11_trace_17 rfl ?_
  refine w_cS3 (n := 21) s0_X11_within k_X11_112 (Nat.le_of_ble_eq_true rfl) dX11_trace_18 rfl (c_within (fun t18_h => ?_) (fun t18_h => ?_))
  · skip
    refine w_if_ne (n := 24) 27 dX11_trace_21 (by decide) rfl (fun _ => ?_) (fun h => absurd h (by decide))
    have hi := hI.2.2.1.in (by decide) t18_h.1 t18_h.2
    refine w_al0 (n := 28) dX11_trace_27 rfl ?_
    refine g_M (n := 31) f_X11_102_11 pl_0 (dk_ref_i g1_h (by decide)) dX11_trace_28 rfl ?_
    refine g_R (n := 34) f_X11_357_2 pl_6 rf_6_0 dX11_trace_31 rfl ?_
    refine w_il1 (n := 35) dX11_trace_34 rfl ?_
    refine i_iald (n := 36) pl_7 (j := tN i) hi.1 (by omega) (by decide) (g3_h _ (by omega)) dX11_trace_35 rfl ?_
    refine w_retI dX11_trace_36 rfl ?_
    exact dk_fin hq (congrArg (fun y => (y, E)) (if_pos t18_h)) hE dk_fr.rf
  · skip
    refine w_if_ne (n := 24) 27 dX11_trace_21 (by decide) rfl (fun h => absurd h (by decide)) (fun _ => ?_)
    refine w_bipush (n := 26) (-3) dX11_trace_24 (by decide) rfl ?_
    refine w_retI dX11_trace_26 rfl ?_
    exact dk_fin hq (congrArg (fun y => (y, E)) (if_neg t18_h)) hE dk_fr.rf

set_option maxRecDepth 20000 in
theorem c_many2 {d : Nat} {M : dk_Mem} {Q : Option Value → dk_Mem → Prop} {E : sg_E} (g1_h : M.1 0 16 = nI 6) (g2_h : M.1 6 1 = E 40) (hq : Q (some (.int (E 40))) M) : dk_Call (d + 1) mX11_many [.ref 0, .int (nI 6)] M Q := by
  refine dk_enter [some (.ref 0), some (.int (nI 6))] (by decide) (fun _ => rfl) (fun _ => Nat.le_of_ble_eq_true rfl) ?_
  refine w_il1 (n := 1) dX11_many_0 rfl ?_
  refine w_tabIn 98 dX11_many_1 (by decide) (by decide) rfl (by decide) ?_
  refine w_al0 (n := 99) dX11_many_98 rfl ?_
  refine g_M (n := 102) f_X11_102_11 pl_0 (dk_ref_i g1_h (by decide)) dX11_many_99 rfl ?_
  refine w_ifnonnullR 109 dX11_many_102 (by decide) ?_
  refine w_al0 (n := 110) dX11_many_109 rfl ?_
  refine g_M (n := 113) f_X11_102_11 pl_0 (dk_ref_i g1_h (by decide)) dX11_many_110 rfl ?_
  refine g_I (n := 116) f_X11_354_2 pl_6 dX11_many_113 rfl ?_
  rw [g2_h]
  refine w_retI dX11_many_116 rfl ?_
  exact hq

set_option maxRecDepth 20000 in
theorem c_trace3 {d : Nat} {M : dk_Mem} {Q : Option Value → dk_Mem → Prop} {E : sg_E} (hE : cE E M) (hI : eI E) (g1_h : M.1 0 16 = nI 8) (g2_h : M.1 8 1 = E 40) (g3_h : ∀ i, i < tN (E 40) → M.1 9 i = E (41 + i)) {i : Int32} (hq : ∀ M2, cE (ef_trace E i).2 M2 → dk_fr cXX M M2 → Q (some (.int (ef_trace E i).1)) M2) : dk_Call (d + 1) mX11_trace [.ref 0, .int i] M Q := by
  refine dk_enter [some (.ref 0), some (.int i)] (by decide) (fun _ => rfl) (fun _ => Nat.le_of_ble_eq_true rfl) ?_
  refine w_al0 (n := 1) dX11_trace_0 rfl ?_
  refine g_M (n := 4) f_X11_102_11 pl_0 (dk_ref_i g1_h (by decide)) dX11_trace_1 rfl ?_
  refine w_ifnullR (n := 7) dX11_trace_4 rfl ?_
  refine w_il1 (n := 8) dX11_trace_7 rfl ?_
  refine w_iconst (n := 9) (nI 0) dX11_trace_8 (by decide) rfl ?_
  refine w_al0 (n := 10) dX11_trace_9 rfl ?_
  refine g_M (n := 13) f_X11_102_11 pl_0 (dk_ref_i g1_h (by decide)) dX11_trace_10 rfl ?_
  refine g_I (n := 16) f_X11_354_1 pl_8 dX11_trace_13 rfl ?_
  rw [g2_h]
  refine w_iconst (n := 17) (nI 1) dX11_trace_16 (by decide) rfl ?_
  refine w_isub (n := 18) dX11_trace_17 rfl ?_
  refine w_cS3 (n := 21) s0_X11_within k_X11_112 (Nat.le_of_ble_eq_true rfl) dX11_trace_18 rfl (c_within (fun t18_h => ?_) (fun t18_h => ?_))
  · skip
    refine w_if_ne (n := 24) 27 dX11_trace_21 (by decide) rfl (fun _ => ?_) (fun h => absurd h (by decide))
    have hi := hI.2.2.1.in (by decide) t18_h.1 t18_h.2
    refine w_al0 (n := 28) dX11_trace_27 rfl ?_
    refine g_M (n := 31) f_X11_102_11 pl_0 (dk_ref_i g1_h (by decide)) dX11_trace_28 rfl ?_
    refine g_R (n := 34) f_X11_357_1 pl_8 rf_8_0 dX11_trace_31 rfl ?_
    refine w_il1 (n := 35) dX11_trace_34 rfl ?_
    refine i_iald (n := 36) pl_9 (j := tN i) hi.1 (by omega) (by decide) (g3_h _ (by omega)) dX11_trace_35 rfl ?_
    refine w_retI dX11_trace_36 rfl ?_
    exact dk_fin hq (congrArg (fun y => (y, E)) (if_pos t18_h)) hE dk_fr.rf
  · skip
    refine w_if_ne (n := 24) 27 dX11_trace_21 (by decide) rfl (fun h => absurd h (by decide)) (fun _ => ?_)
    refine w_bipush (n := 26) (-3) dX11_trace_24 (by decide) rfl ?_
    refine w_retI dX11_trace_26 rfl ?_
    exact dk_fin hq (congrArg (fun y => (y, E)) (if_neg t18_h)) hE dk_fr.rf

set_option maxRecDepth 20000 in
theorem c_many3 {d : Nat} {M : dk_Mem} {Q : Option Value → dk_Mem → Prop} {E : sg_E} (g1_h : M.1 0 16 = nI 8) (g2_h : M.1 8 1 = E 40) (hq : Q (some (.int (E 40))) M) : dk_Call (d + 1) mX11_many [.ref 0, .int (nI 6)] M Q := by
  refine dk_enter [some (.ref 0), some (.int (nI 6))] (by decide) (fun _ => rfl) (fun _ => Nat.le_of_ble_eq_true rfl) ?_
  refine w_il1 (n := 1) dX11_many_0 rfl ?_
  refine w_tabIn 98 dX11_many_1 (by decide) (by decide) rfl (by decide) ?_
  refine w_al0 (n := 99) dX11_many_98 rfl ?_
  refine g_M (n := 102) f_X11_102_11 pl_0 (dk_ref_i g1_h (by decide)) dX11_many_99 rfl ?_
  refine w_ifnonnullR 109 dX11_many_102 (by decide) ?_
  refine w_al0 (n := 110) dX11_many_109 rfl ?_
  refine g_M (n := 113) f_X11_102_11 pl_0 (dk_ref_i g1_h (by decide)) dX11_many_110 rfl ?_
  refine g_I (n := 116) f_X11_354_1 pl_8 dX11_many_113 rfl ?_
  rw [g2_h]
  refine w_retI dX11_many_116 rfl ?_
  exact hq

set_option maxRecDepth 20000 in
theorem c_trace4 {d : Nat} {M : dk_Mem} {Q : Option Value → dk_Mem → Prop} {E : sg_E} (hE : cE E M) (hI : eI E) (g1_h : M.1 0 16 = nI 10) (g2_h : M.1 10 1 = E 40) (g3_h : ∀ i, i < tN (E 40) → M.1 11 i = E (41 + i)) {i : Int32} (hq : ∀ M2, cE (ef_trace E i).2 M2 → dk_fr cXX M M2 → Q (some (.int (ef_trace E i).1)) M2) : dk_Call (d + 1) mX11_trace [.ref 0, .int i] M Q := by
  refine dk_enter [some (.ref 0), some (.int i)] (by decide) (fun _ => rfl) (fun _ => Nat.le_of_ble_eq_true rfl) ?_
  refine w_al0 (n := 1) dX11_trace_0 rfl ?_
  refine g_M (n := 4) f_X11_102_11 pl_0 (dk_ref_i g1_h (by decide)) dX11_trace_1 rfl ?_
  refine w_ifnullR (n := 7) dX11_trace_4 rfl ?_
  refine w_il1 (n := 8) dX11_trace_7 rfl ?_
  refine w_iconst (n := 9) (nI 0) dX11_trace_8 (by decide) rfl ?_
  refine w_al0 (n := 10) dX11_trace_9 rfl ?_
  refine g_M (n := 13) f_X11_102_11 pl_0 (dk_ref_i g1_h (by decide)) dX11_trace_10 rfl ?_
  refine g_I (n := 16) f_X11_354_3 pl_10 dX11_trace_13 rfl ?_
  rw [g2_h]
  refine w_iconst (n := 17) (nI 1) dX11_trace_16 (by decide) rfl ?_
  refine w_isub (n := 18) dX11_trace_17 rfl ?_
  refine w_cS3 (n := 21) s0_X11_within k_X11_112 (Nat.le_of_ble_eq_true rfl) dX11_trace_18 rfl (c_within (fun t18_h => ?_) (fun t18_h => ?_))
  · skip
    refine w_if_ne (n := 24) 27 dX11_trace_21 (by decide) rfl (fun _ => ?_) (fun h => absurd h (by decide))
    have hi := hI.2.2.1.in (by decide) t18_h.1 t18_h.2
    refine w_al0 (n := 28) dX11_trace_27 rfl ?_
    refine g_M (n := 31) f_X11_102_11 pl_0 (dk_ref_i g1_h (by decide)) dX11_trace_28 rfl ?_
    refine g_R (n := 34) f_X11_357_3 pl_10 rf_10_0 dX11_trace_31 rfl ?_
    refine w_il1 (n := 35) dX11_trace_34 rfl ?_
    refine i_iald (n := 36) pl_11 (j := tN i) hi.1 (by omega) (by decide) (g3_h _ (by omega)) dX11_trace_35 rfl ?_
    refine w_retI dX11_trace_36 rfl ?_
    exact dk_fin hq (congrArg (fun y => (y, E)) (if_pos t18_h)) hE dk_fr.rf
  · skip
    refine w_if_ne (n := 24) 27 dX11_trace_21 (by decide) rfl (fun h => absurd h (by decide)) (fun _ => ?_)
    refine w_bipush (n := 26) (-3) dX11_trace_24 (by decide) rfl ?_
    refine w_retI dX11_trace_26 rfl ?_
    exact dk_fin hq (congrArg (fun y => (y, E)) (if_neg t18_h)) hE dk_fr.rf

set_option maxRecDepth 20000 in
theorem c_many4 {d : Nat} {M : dk_Mem} {Q : Option Value → dk_Mem → Prop} {E : sg_E} (g1_h : M.1 0 16 = nI 10) (g2_h : M.1 10 1 = E 40) (hq : Q (some (.int (E 40))) M) : dk_Call (d + 1) mX11_many [.ref 0, .int (nI 6)] M Q := by
  refine dk_enter [some (.ref 0), some (.int (nI 6))] (by decide) (fun _ => rfl) (fun _ => Nat.le_of_ble_eq_true rfl) ?_
  refine w_il1 (n := 1) dX11_many_0 rfl ?_
  refine w_tabIn 98 dX11_many_1 (by decide) (by decide) rfl (by decide) ?_
  refine w_al0 (n := 99) dX11_many_98 rfl ?_
  refine g_M (n := 102) f_X11_102_11 pl_0 (dk_ref_i g1_h (by decide)) dX11_many_99 rfl ?_
  refine w_ifnonnullR 109 dX11_many_102 (by decide) ?_
  refine w_al0 (n := 110) dX11_many_109 rfl ?_
  refine g_M (n := 113) f_X11_102_11 pl_0 (dk_ref_i g1_h (by decide)) dX11_many_110 rfl ?_
  refine g_I (n := 116) f_X11_354_3 pl_10 dX11_many_113 rfl ?_
  rw [g2_h]
  refine w_retI dX11_many_116 rfl ?_
  exact hq

set_option maxRecDepth 20000 in
theorem c_trace5 {d : Nat} {M : dk_Mem} {Q : Option Value → dk_Mem → Prop} {E : sg_E} (hE : cE E M) (hI : eI E) (g1_h : M.1 0 16 = nI 12) (g2_h : M.1 12 1 = E 40) (g3_h : ∀ i, i < tN (E 40) → M.1 13 i = E (41 + i)) {i : Int32} (hq : ∀ M2, cE (ef_trace E i).2 M2 → dk_fr cXX M M2 → Q (some (.int (ef_trace E i).1)) M2) : dk_Call (d + 1) mX11_trace [.ref 0, .int i] M Q := by
  refine dk_enter [some (.ref 0), some (.int i)] (by decide) (fun _ => rfl) (fun _ => Nat.le_of_ble_eq_true rfl) ?_
  refine w_al0 (n := 1) dX11_trace_0 rfl ?_
  refine g_M (n := 4) f_X11_102_11 pl_0 (dk_ref_i g1_h (by decide)) dX11_trace_1 rfl ?_
  refine w_ifnullR (n := 7) dX11_trace_4 rfl ?_
  refine w_il1 (n := 8) dX11_trace_7 rfl ?_
  refine w_iconst (n := 9) (nI 0) dX11_trace_8 (by decide) rfl ?_
  refine w_al0 (n := 10) dX11_trace_9 rfl ?_
  refine g_M (n := 13) f_X11_102_11 pl_0 (dk_ref_i g1_h (by decide)) dX11_trace_10 rfl ?_
  refine g_I (n := 16) f_X11_354_9 pl_12 dX11_trace_13 rfl ?_
  rw [g2_h]
  refine w_iconst (n := 17) (nI 1) dX11_trace_16 (by decide) rfl ?_
  refine w_isub (n := 18) dX11_trace_17 rfl ?_
  refine w_cS3 (n := 21) s0_X11_within k_X11_112 (Nat.le_of_ble_eq_true rfl) dX11_trace_18 rfl (c_within (fun t18_h => ?_) (fun t18_h => ?_))
  · skip
    refine w_if_ne (n := 24) 27 dX11_trace_21 (by decide) rfl (fun _ => ?_) (fun h => absurd h (by decide))
    have hi := hI.2.2.1.in (by decide) t18_h.1 t18_h.2
    refine w_al0 (n := 28) dX11_trace_27 rfl ?_
    refine g_M (n := 31) f_X11_102_11 pl_0 (dk_ref_i g1_h (by decide)) dX11_trace_28 rfl ?_
    refine g_R (n := 34) f_X11_357_9 pl_12 rf_12_0 dX11_trace_31 rfl ?_
    refine w_il1 (n := 35) dX11_trace_34 rfl ?_
    refine i_iald (n := 36) pl_13 (j := tN i) hi.1 (by omega) (by decide) (g3_h _ (by omega)) dX11_trace_35 rfl ?_
    refine w_retI dX11_trace_36 rfl ?_
    exact dk_fin hq (congrArg (fun y => (y, E)) (if_pos t18_h)) hE dk_fr.rf
  · skip
    refine w_if_ne (n := 24) 27 dX11_trace_21 (by decide) rfl (fun h => absurd h (by decide)) (fun _ => ?_)
    refine w_bipush (n := 26) (-3) dX11_trace_24 (by decide) rfl ?_
    refine w_retI dX11_trace_26 rfl ?_
    exact dk_fin hq (congrArg (fun y => (y, E)) (if_neg t18_h)) hE dk_fr.rf

set_option maxRecDepth 20000 in
theorem c_many5 {d : Nat} {M : dk_Mem} {Q : Option Value → dk_Mem → Prop} {E : sg_E} (g1_h : M.1 0 16 = nI 12) (g2_h : M.1 12 1 = E 40) (hq : Q (some (.int (E 40))) M) : dk_Call (d + 1) mX11_many [.ref 0, .int (nI 6)] M Q := by
  refine dk_enter [some (.ref 0), some (.int (nI 6))] (by decide) (fun _ => rfl) (fun _ => Nat.le_of_ble_eq_true rfl) ?_
  refine w_il1 (n := 1) dX11_many_0 rfl ?_
  refine w_tabIn 98 dX11_many_1 (by decide) (by decide) rfl (by decide) ?_
  refine w_al0 (n := 99) dX11_many_98 rfl ?_
  refine g_M (n := 102) f_X11_102_11 pl_0 (dk_ref_i g1_h (by decide)) dX11_many_99 rfl ?_
  refine w_ifnonnullR 109 dX11_many_102 (by decide) ?_
  refine w_al0 (n := 110) dX11_many_109 rfl ?_
  refine g_M (n := 113) f_X11_102_11 pl_0 (dk_ref_i g1_h (by decide)) dX11_many_110 rfl ?_
  refine g_I (n := 116) f_X11_354_9 pl_12 dX11_many_113 rfl ?_
  rw [g2_h]
  refine w_retI dX11_many_116 rfl ?_
  exact hq

set_option maxRecDepth 20000 in
theorem c_traceN {d : Nat} {M : dk_Mem} {Q : Option Value → dk_Mem → Prop} {i : Int32} (g1_h : M.1 0 16 = -1) (hq : Q (some (.int (-3))) M) : dk_Call (d + 1) mX11_trace [.ref 0, .int i] M Q := by
  refine dk_enter [some (.ref 0), some (.int i)] (by decide) (fun _ => rfl) (fun _ => Nat.le_of_ble_eq_true rfl) ?_
  refine w_al0 (n := 1) dX11_trace_0 rfl ?_
  refine g_Mn (n := 4) f_X11_102_11 pl_0 (dk_ref_n g1_h) dX11_trace_1 rfl ?_
  refine w_ifnullN 24 dX11_trace_4 (by decide) ?_
  refine w_bipush (n := 26) (-3) dX11_trace_24 (by decide) rfl ?_
  refine w_retI dX11_trace_26 rfl ?_
  exact hq

set_option maxRecDepth 20000 in
theorem c_manyN {d : Nat} {M : dk_Mem} {Q : Option Value → dk_Mem → Prop} (g1_h : M.1 0 16 = -1) (hq : Q (some (.int (nI 0))) M) : dk_Call (d + 1) mX11_many [.ref 0, .int (nI 6)] M Q := by
  refine dk_enter [some (.ref 0), some (.int (nI 6))] (by decide) (fun _ => rfl) (fun _ => Nat.le_of_ble_eq_true rfl) ?_
  refine w_il1 (n := 1) dX11_many_0 rfl ?_
  refine w_tabIn 98 dX11_many_1 (by decide) (by decide) rfl (by decide) ?_
  refine w_al0 (n := 99) dX11_many_98 rfl ?_
  refine g_Mn (n := 102) f_X11_102_11 pl_0 (dk_ref_n g1_h) dX11_many_99 rfl ?_
  refine w_ifnonnullN (n := 105) dX11_many_102 rfl ?_
  refine w_iconst (n := 106) (nI 0) dX11_many_105 (by decide) rfl ?_
  refine w_goto 116 dX11_many_106 (by decide) ?_
  refine w_retI dX11_many_116 rfl ?_
  exact hq

theorem C_trace {d : Nat} {M : dk_Mem} {Q : Option Value → dk_Mem → Prop} {E : sg_E} (hE : cE E M) (hI : eI E) {i : Int32} (hq : ∀ M2, cE (ef_trace E i).2 M2 → dk_fr cXX M M2 → Q (some (.int (ef_trace E i).1)) M2) : dk_Call (d + 1) mX11_trace [.ref 0, .int i] M Q := by
  rcases hE.2.2.2.1 with g | ⟨κ, g0_h, g1_h, g2_h, g3_h⟩
  · refine c_traceN g.1 (dk_fin hq (congrArg (fun y => (y, E)) (if_neg ?_)) hE dk_fr.rf)
    rw [g.2]
    exact fun z => absurd (Int32.le_trans z.1 z.2) (by decide)
  · rcases (show κ = 0 ∨ κ = 1 ∨ κ = 2 ∨ κ = 3 ∨ κ = 4 ∨ κ = 5 by omega) with rfl | rfl | rfl | rfl | rfl | rfl
    · exact c_trace0 hE hI g1_h g2_h g3_h hq
    · exact c_trace1 hE hI g1_h g2_h g3_h hq
    · exact c_trace2 hE hI g1_h g2_h g3_h hq
    · exact c_trace3 hE hI g1_h g2_h g3_h hq
    · exact c_trace4 hE hI g1_h g2_h g3_h hq
    · exact c_trace5 hE hI g1_h g2_h g3_h hq

theorem c_many6 {d : Nat} {M : dk_Mem} {Q : Option Value → dk_Mem → Prop} {E : sg_E} (hE : cE E M) (hI : eI E) (hq : Q (some (.int (E 40))) M) : dk_Call (d + 1) mX11_many [.ref 0, .int (nI 6)] M Q := by
  rcases hE.2.2.2.1 with g | ⟨κ, g0_h, g1_h, g2_h, g3_h⟩
  · rw [g.2] at hq
    exact c_manyN g.1 hq
  · rcases (show κ = 0 ∨ κ = 1 ∨ κ = 2 ∨ κ = 3 ∨ κ = 4 ∨ κ = 5 by omega) with rfl | rfl | rfl | rfl | rfl | rfl
    · exact c_many0 g1_h g2_h hq
    · exact c_many1 g1_h g2_h hq
    · exact c_many2 g1_h g2_h hq
    · exact c_many3 g1_h g2_h hq
    · exact c_many4 g1_h g2_h hq
    · exact c_many5 g1_h g2_h hq

set_option maxRecDepth 20000 in
theorem c_manyR {d : Nat} {M : dk_Mem} {Q : Option Value → dk_Mem → Prop} {K : sg_K} (hK : cK K M) {E : sg_E} (hE : cE E M) (hI : eI E) {x : Int32} (h6_h : x ≠ nI 6) (hq : ∀ M2, cE (ef_many K E x).2 M2 → dk_fr cXX M M2 → Q (some (.int (ef_many K E x).1)) M2) : dk_Call (d + 2) mX11_many [.ref 0, .int x] M Q := by
  have hK0 := hK
  obtain ⟨⟨o, p1_h, p2_h, p3_h⟩, hs, hc, hb, hcr, hsc, hz, β, hβ, hβ1, hβ2⟩ := hK0
  have o4_h := o.2.2.2.1
  have o16_h := o.2.1
  have hm : dk_mo 22 := Or.inl rfl
  refine dk_enter [some (.ref 0), some (.int x)] (by decide) (fun _ => rfl) (fun _ => Nat.le_of_ble_eq_true rfl) ?_
  refine w_il1 (n := 1) dX11_many_0 rfl ?_
  by_cases hs1_0 : x = (nI 0)
  · first | subst hs1_0 | rw [hs1_0]
    refine w_tabIn 44 dX11_many_1 (by decide) (by decide) rfl (by decide) ?_
    refine w_al0 (n := 45) dX11_many_44 rfl ?_
    refine g_R (n := 48) f_X11_36_11 pl_0 rf_0_1 dX11_many_45 rfl ?_
    refine g_I (n := 51) f_X11_116_10 pl_14 dX11_many_48 rfl ?_
    rw [hs.count]
    refine w_retI dX11_many_51 rfl ?_
    exact dk_fin hq rfl hE dk_fr.rf
  by_cases hs1_1 : x = (nI 1)
  · first | subst hs1_1 | rw [hs1_1]
    refine w_tabIn 52 dX11_many_1 (by decide) (by decide) rfl (by decide) ?_
    refine w_al0 (n := 53) dX11_many_52 rfl ?_
    refine g_R (n := 56) f_X11_36_11 pl_0 rf_0_1 dX11_many_53 rfl ?_
    refine g_M (n := 59) f_X11_213_10 pl_14 (dk_ref_i hβ1 (by rcases hβ with z | z | z <;> (rw [z]; decide))) dX11_many_56 rfl ?_
    refine g_I (n := 62) f_X11_360_8 (bo_is hβ) dX11_many_59 rfl ?_
    rw [hβ2]
    refine w_retI dX11_many_62 rfl ?_
    exact dk_fin hq rfl hE dk_fr.rf
  by_cases hs1_2 : x = (nI 2)
  · first | subst hs1_2 | rw [hs1_2]
    refine w_tabIn 63 dX11_many_1 (by decide) (by decide) rfl (by decide) ?_
    refine w_al0 (n := 64) dX11_many_63 rfl ?_
    refine g_R (n := 67) f_X11_36_11 pl_0 rf_0_1 dX11_many_64 rfl ?_
    refine g_R (n := 70) f_X11_127_10 pl_14 rf_14_9 dX11_many_67 rfl ?_
    refine g_I (n := 73) f_X11_191_4 pl_22 dX11_many_70 rfl ?_
    rw [hc.2.1]
    refine w_cS1 (n := 76) s0_J6_bitCount_0f7a4 k_X11_361 (Nat.le_of_ble_eq_true rfl) dX11_many_73 rfl (j_bits (sg_set_64 o) ?_)
    refine w_retI dX11_many_76 rfl ?_
    exact dk_fin hq rfl hE dk_fr.rf
  by_cases hs1_3 : x = (nI 3)
  · first | subst hs1_3 | rw [hs1_3]
    refine w_tabIn 77 dX11_many_1 (by decide) (by decide) rfl (by decide) ?_
    refine w_al0 (n := 78) dX11_many_77 rfl ?_
    refine g_R (n := 81) f_X11_36_11 pl_0 rf_0_1 dX11_many_78 rfl ?_
    refine g_R (n := 84) f_X11_281_10 pl_14 rf_14_14 dX11_many_81 rfl ?_
    refine g_I (n := 87) f_X11_285_7 pl_32 dX11_many_84 rfl ?_
    rw [hcr.1]
    refine w_retI dX11_many_87 rfl ?_
    exact dk_fin hq rfl hE dk_fr.rf
  by_cases hs1_4 : x = (nI 4)
  · first | subst hs1_4 | rw [hs1_4]
    refine w_tabIn 88 dX11_many_1 (by decide) (by decide) rfl (by decide) ?_
    refine w_al0 (n := 89) dX11_many_88 rfl ?_
    refine g_I (n := 92) f_X11_83_11 pl_0 dX11_many_89 rfl ?_
    rw [hE.1.1]
    refine w_retI dX11_many_92 rfl ?_
    exact dk_fin hq rfl hE dk_fr.rf
  by_cases hs1_5 : x = (nI 5)
  · first | subst hs1_5 | rw [hs1_5]
    refine w_tabIn 93 dX11_many_1 (by decide) (by decide) rfl (by decide) ?_
    refine w_al0 (n := 94) dX11_many_93 rfl ?_
    refine g_I (n := 97) f_X11_67_11 pl_0 dX11_many_94 rfl ?_
    rw [hE.2.2.2.2.1]
    refine w_retI dX11_many_97 rfl ?_
    exact dk_fin hq rfl hE dk_fr.rf
  by_cases hs1_6 : x = (nI 6)
  · first | subst hs1_6 | rw [hs1_6]
    refine w_tabIn 98 dX11_many_1 (by decide) (by decide) rfl (by decide) ?_
    exact absurd rfl h6_h
  refine w_tabOut 117 dX11_many_1 (dk_out7 hs1_0 hs1_1 hs1_2 hs1_3 hs1_4 hs1_5 hs1_6) (by decide) ?_
  refine w_iconst (n := 118) (-1) dX11_many_117 (by decide) rfl ?_
  refine w_retI dX11_many_118 rfl ?_
  exact dk_fin hq (by unfold ef_many; rw [if_neg hs1_0, if_neg hs1_1, if_neg hs1_2, if_neg hs1_3, if_neg hs1_4, if_neg hs1_5, if_neg hs1_6]) hE dk_fr.rf

theorem C_many {d : Nat} {M : dk_Mem} {Q : Option Value → dk_Mem → Prop} {K : sg_K} (hK : cK K M) {E : sg_E} (hE : cE E M) (hI : eI E) {x : Int32} (hq : ∀ M2, cE (ef_many K E x).2 M2 → dk_fr cXX M M2 → Q (some (.int (ef_many K E x).1)) M2) : dk_Call (d + 2) mX11_many [.ref 0, .int x] M Q := by
  by_cases e : x = nI 6
  · subst e
    exact c_many6 (d := d + 1) hE hI (dk_fin hq rfl hE dk_fr.rf)
  · exact c_manyR hK hE hI e hq
