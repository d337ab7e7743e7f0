/-! ===== prove in the reference ===== -/
def ePv (w : sg_R) (b m P c : Nat) : Nat → Nat → (Nat → Nat) → sg_E → sg_E
  | 0, _, _, E => E
  | n + 1, k, σ, E => ePv w b m P c n (k + 1) (sg_goes w σ (sg_ot (pl_d b m P k))).1 (eU (eU (eU E (1 + 3 * k) (nI (pl_d b m P k))) (1 + (3 * k + 1)) (nI (sg_goes w σ (sg_ot (pl_d b m P k))).2)) (1 + (3 * k + 2)) (nI (sg_set (sg_goes w σ (sg_ot (pl_d b m P k))).1 c)))
theorem ePv_s {w : sg_R} {b m P c n k : Nat} {σ : Nat → Nat} {E : sg_E} {t : Option Nat} (ht : sg_ot (pl_d b m P k) = t) : ePv w b m P c (n + 1) k σ E = ePv w b m P c n (k + 1) (sg_goes w σ t).1 (eU (eU (eU E (1 + 3 * k) (nI (pl_d b m P k))) (1 + (3 * k + 1)) (nI (sg_goes w σ t).2)) (1 + (3 * k + 2)) (nI (sg_set (sg_goes w σ t).1 c))) := by subst ht; rfl
def ef_prove (K : sg_K) (E : sg_E) (n : Int32) : Int32 × sg_E := if nI 0 ≤ n ∧ n ≤ nI 4 then (nI (sg_ys K.1 (tN n)), eU (ePv K.2.1 (K.1 4 + 1) (sg_ys K.1 (tN n)) (sg_fb K (tN n)).2.1 (K.1 4) (sg_ys K.1 (tN n)) 0 K.1 E) 0 (nI (sg_ys K.1 (tN n)))) else (-1, E)
def rGp (q k : Nat) : Prop := rG q k ∨ q = 112
theorem rW.p {g : Nat → Int32} {M : dk_Mem} (h : rW g M) {j : Nat} {x : Int32} : rW g (dk_put M 112 j x) := fun k hk => by rw [dk_put_k (by omega)]; exact h k hk
theorem rr.p {σ : Nat → Nat} {M : dk_Mem} (h : rr σ M) {j : Nat} {x : Int32} : rr σ (dk_put M 112 j x) := fun k a b c => by rw [dk_put_k (by omega)]; exact h k a b c
theorem rT.p {f : Nat → Int32} {M : dk_Mem} (h : rT f M) {j : Nat} {x : Int32} : rT f (dk_put M 112 j x) := fun k a b => by rw [dk_put_k (by omega)]; exact h k a b

set_option maxRecDepth 20000 in
theorem r_pvL {d : Nat} {M : dk_Mem} {Q : Option Value → dk_Mem → Prop} {w : sg_R} {nr c m P : Nat} {f g : Nat → Int32} {n0_h : Int32} (hb : rb w nr f) (hm : m ≤ 4) (hP : P < 2 ^ 31) (hc : c ≤ 6) (hg4_h : g 4 = nI c) {T0 : sg_E} (hq : ∀ M1, dk_fr rGp M M1 → rW g M1 → rE T0 M1 → Q (some (.int (nI m))) (dk_put (dk_row M1 105 (dk_cp (M1.1 107) (M1.1 105) 621)) 104 20 (nI m))) : ∀ (n k : Nat) (σ : Nat → Nat) (E : sg_E) (M1 : dk_Mem), k ≤ m → m - k < n → sg_ok σ → σ 6 = nr → σ 4 = c → m - k ≤ σ 0 - σ 1 → rr σ M1 → rT f M1 → dk_fr rGp M M1 → rW g M1 → rE E M1 → M1.1 104 15 = nI P → ePv w (c + 1) m P c (m - k) k σ E = T0 → dk_W (d + 8) mX12_prove 28 [some (.ref 104), some (.int n0_h), some (.int (nI m)), some (.int (nI k))] [] M1 Q := by
  intro n
  induction n with
  | zero => intro k _ _ _ _ h; omega
  | succ n ih =>
    intro k σ E M1 hk hn o hs6_h hs4_h hyr hr hT hf hW hE h15_h he
    subst hs6_h
    have o16_h := o.2.1
    refine w_il3 (n := 29) dX12_prove_28 rfl ?_
    refine w_il2 (n := 30) dX12_prove_29 rfl ?_
    refine w_ic_ge (n := 33) 102 dX12_prove_30 (by decide) rfl (fun z30_h => ?_) (fun z30_h => ?_)
    · skip
      refine w_al0 (n := 103) dX12_prove_102 rfl ?_
      refine w_cV0 (n := 106) pl_104 cl_12 s0_X12_putsBack k_X12_202 (Nat.le_of_ble_eq_true rfl) dX12_prove_103 rfl (r_putsBack ?_)
      refine w_al0 (n := 107) dX12_prove_106 rfl ?_
      refine w_il2 (n := 108) dX12_prove_107 rfl ?_
      refine p_I (n := 111) f_X12_291_12 pl_104 dX12_prove_108 rfl ?_
      refine w_al0 (n := 112) dX12_prove_111 rfl ?_
      refine g_I (n := 115) f_X12_291_12 pl_104 dX12_prove_112 rfl ?_
      refine w_retI dX12_prove_115 rfl ?_
      rw [q_le (by omega) (by omega)] at z30_h
      rw [show m - k = 0 by omega] at he
      have e9_h : E = T0 := he
      rw [e9_h] at hE
      rw [dk_put_s]
      exact hq M1 hf hW hE
    · skip
      have hkm : k < m := by rw [q_le (by omega) (by omega)] at z30_h; omega
      have dl := pl_d_le (m := m) (P := P) (i := k) (show 0 < c + 1 by omega)
      have hlt := sg_ot_lt dl
      have en := sg_ot_enc (a := pl_d (c + 1) m P k) (by omega)
      refine w_al0 (n := 34) dX12_prove_33 rfl ?_
      refine g_R (n := 37) f_X12_32_12 pl_104 rf_104_21 dX12_prove_34 rfl ?_
      refine w_iconst (n := 38) (nI 3) dX12_prove_37 (by decide) rfl ?_
      refine w_il3 (n := 39) dX12_prove_38 rfl ?_
      refine w_imul (n := 40) dX12_prove_39 rfl ?_
      refine w_al0 (n := 41) dX12_prove_40 rfl ?_
      refine g_I (n := 44) f_X12_265_12 pl_104 dX12_prove_41 rfl ?_
      rw [h15_h]
      refine w_al0 (n := 45) dX12_prove_44 rfl ?_
      refine g_R (n := 48) f_X12_16_12 pl_104 rf_104_2 dX12_prove_45 rfl ?_
      refine w_iconst (n := 49) (nI 4) dX12_prove_48 (by decide) rfl ?_
      refine i_iald (n := 50) pl_107 (j := 4) rfl (by decide) (by decide) ((hW 4 (by decide)).trans hg4_h) dX12_prove_49 rfl ?_
      refine w_iconst (n := 51) (nI 1) dX12_prove_50 (by decide) rfl ?_
      refine w_iadd (n := 52) dX12_prove_51 rfl ?_
      rw [nI_add]
      refine w_il3 (n := 53) dX12_prove_52 rfl ?_
      refine w_il2 (n := 54) dX12_prove_53 rfl ?_
      refine w_cS4 (n := 57) s0_X12_digit k_X12_247 (Nat.le_of_ble_eq_true rfl) dX12_prove_54 rfl (r_digit hP (by omega) (by omega) hm hkm ?_)
      refine i_iast (n := 58) pl_112 (j := 3 * k) (by rw [pk_mul]) (by omega) (by decide) dX12_prove_57 rfl ?_
      refine w_al0 (n := 59) dX12_prove_58 rfl ?_
      refine g_R (n := 62) f_X12_32_12 pl_104 rf_104_21 dX12_prove_59 rfl ?_
      refine w_iconst (n := 63) (nI 3) dX12_prove_62 (by decide) rfl ?_
      refine w_il3 (n := 64) dX12_prove_63 rfl ?_
      refine w_imul (n := 65) dX12_prove_64 rfl ?_
      refine w_iconst (n := 66) (nI 1) dX12_prove_65 (by decide) rfl ?_
      refine w_iadd (n := 67) dX12_prove_66 rfl ?_
      refine w_al0 (n := 68) dX12_prove_67 rfl ?_
      refine w_al0 (n := 69) dX12_prove_68 rfl ?_
      refine g_R (n := 72) f_X12_32_12 pl_104 rf_104_21 dX12_prove_69 rfl ?_
      refine w_iconst (n := 73) (nI 3) dX12_prove_72 (by decide) rfl ?_
      refine w_il3 (n := 74) dX12_prove_73 rfl ?_
      refine w_imul (n := 75) dX12_prove_74 rfl ?_
      refine i_iald (n := 76) pl_112 (j := 3 * k) (by rw [pk_mul]) (by omega) (by decide) dk_put_s dX12_prove_75 rfl ?_
      refine w_iconst (n := 77) (nI 1) dX12_prove_76 (by decide) rfl ?_
      refine w_isub (n := 78) dX12_prove_77 rfl ?_
      rw [en]
      generalize hgt : sg_ot (pl_d (c + 1) m P k) = t at *
      refine w_cV1 (n := 81) pl_104 cl_12 s0_X12_goes k_X12_226 (Nat.le_of_ble_eq_true rfl) dX12_prove_78 rfl (r_goes hr.p o (fun h e => by have := hlt h e; omega) hb hT.p (fun M2 g1_h g2_h g3_h => ?_))
      have hE2 := (hE.put (eL_112 (s := 3 * k) (by omega)) (v := nI (pl_d (c + 1) m P k))).G g2_h
      have o2_h := o.goes (w := w) (t := t) (fun h e => by have := hlt h e; omega) (by omega)
      have e4_h : (sg_goes w σ t).1 4 = c := (sg_goes_o (by omega) (by omega)).trans hs4_h
      have e15_h : M2.1 104 15 = nI P := by rw [g2_h.2 _ _ (by unfold rG; omega), dk_put_k (by omega)]; exact h15_h
      refine i_iast (n := 82) pl_112 (j := 3 * k + 1) (by rw [pk_mul, nI_add]) (by omega) (by decide) dX12_prove_81 rfl ?_
      refine w_al0 (n := 83) dX12_prove_82 rfl ?_
      refine g_R (n := 86) f_X12_32_12 pl_104 rf_104_21 dX12_prove_83 rfl ?_
      refine w_iconst (n := 87) (nI 3) dX12_prove_86 (by decide) rfl ?_
      refine w_il3 (n := 88) dX12_prove_87 rfl ?_
      refine w_imul (n := 89) dX12_prove_88 rfl ?_
      refine w_iconst (n := 90) (nI 2) dX12_prove_89 (by decide) rfl ?_
      refine w_iadd (n := 91) dX12_prove_90 rfl ?_
      refine w_al0 (n := 92) dX12_prove_91 rfl ?_
      refine w_cV0 (n := 95) pl_104 cl_12 s0_X12_fallenOnes k_X12_125 (Nat.le_of_ble_eq_true rfl) dX12_prove_92 rfl (r_fallenOnes g1_h.p o2_h ?_)
      rw [e4_h]
      refine i_iast (n := 96) pl_112 (j := 3 * k + 2) (by rw [pk_mul, nI_add]) (by omega) (by decide) dX12_prove_95 rfl ?_
      refine w_inc3 (n := 99) (nI 1) dX12_prove_96 (by decide) rfl rfl (by decide) ?_
      refine w_goto 28 dX12_prove_99 (by decide) ?_
      have em : m - k = (m - (k + 1)) + 1 := by omega
      rw [em, ePv_s hgt] at he
      rw [nI_add]
      refine ih (k + 1) _ _ _ (by omega) (by omega) o2_h (sg_goes_o (by omega) (by omega)) e4_h (by rw [sg_goes_1, sg_goes_o (by omega) (by omega)]; omega) g1_h.p.p ((hT.p.fr g2_h).p).p ?_ ((hW.p.fr g2_h nG7).p).p ((hE2.put (eL_112 (by omega))).put (eL_112 (by omega))) (by rw [dk_put_k (by omega), dk_put_k (by omega)]; exact e15_h) he
      exact ((((hf.put (Or.inr rfl)).tr (g2_h.up (fun q k z => Or.inl z))).put (Or.inr rfl)).put (Or.inr rfl))

def rPv (q k : Nat) : Prop := rN q k ∨ q = 112 ∨ (q = 104 ∧ k = 20)

set_option maxRecDepth 20000 in
theorem R_prove {d : Nat} {M : dk_Mem} {Q : Option Value → dk_Mem → Prop} {K : sg_K} (hK : rK K M) {E : sg_E} (hE : rE E M) (hI : eI E) {n : Int32} (hq : ∀ M2, rK K M2 → rE (ef_prove K E n).2 M2 → dk_fr rPv M M2 → Q (some (.int (ef_prove K E n).1)) M2) : dk_Call (d + 11) mX12_prove [.ref 104, .int n] M Q := by
  have hK0 := hK
  obtain ⟨⟨o, p1_h, p2_h, p3_h⟩, hr, ⟨f, hb, hT⟩, hsc, hz⟩ := hK0
  have o4_h := o.2.2.2.1
  have o16_h := o.2.1
  refine dk_enter [some (.ref 104), some (.int n), none, none] (by decide) (fun _ => rfl) (fun _ => Nat.le_of_ble_eq_true rfl) ?_
  refine w_il1 (n := 1) dX12_prove_0 rfl ?_
  refine w_iconst (n := 2) (nI 0) dX12_prove_1 (by decide) rfl ?_
  refine w_iconst (n := 3) (nI 4) dX12_prove_2 (by decide) rfl ?_
  refine w_cS3 (n := 6) s0_X12_in k_X12_61 (Nat.le_of_ble_eq_true rfl) dX12_prove_3 rfl (r_in (fun t3_h => ?_) (fun t3_h => ?_))
  · skip
    refine w_if_ne (n := 9) 11 dX12_prove_6 (by decide) rfl (fun _ => ?_) (fun h => absurd h (by decide))
    have hn := tN_of (n := 4) (by decide) t3_h.1 t3_h.2
    have yl := sg_ys_le (σ := K.1) (n := tN n)
    have np := sg_np_le (σ := K.1) o4_h hn.2
    have e9_h : ef_prove K E n = (nI (sg_ys K.1 (tN n)), eU (ePv K.2.1 (K.1 4 + 1) (sg_ys K.1 (tN n)) (sg_fb K (tN n)).2.1 (K.1 4) (sg_ys K.1 (tN n)) 0 K.1 E) 0 (nI (sg_ys K.1 (tN n)))) := if_pos t3_h
    have en := hn.1
    have ln := hn.2
    clear hn
    generalize tN n = n9_h at *
    subst en
    have fbl := fb_le (f := sg_f K (sg_ys K.1 n9_h)) (B := 76) (fun P => by have := pl_w_le (w := K.2.1) (m := sg_ys K.1 n9_h) (P := P) o4_h (sg_ys K.1 n9_h) 0 K.1 o yl.2; unfold sg_f; omega) (sg_np K.1 n9_h)
    have pl : (sg_fb K n9_h).2.1 ≤ sg_np K.1 n9_h := fbl.2.1
    refine w_al0 (n := 12) dX12_prove_11 rfl ?_
    refine w_il1 (n := 13) dX12_prove_12 rfl ?_
    refine w_cV1 (n := 16) pl_104 cl_12 s0_X12_yearsOf k_X12_244 (Nat.le_of_ble_eq_true rfl) dX12_prove_13 rfl (r_yearsOf hr hK.1 ln ?_)
    refine w_is2 (n := 17) dX12_prove_16 rfl rfl (by decide) ?_
    refine w_al0 (n := 18) dX12_prove_17 rfl ?_
    refine w_il1 (n := 19) dX12_prove_18 rfl ?_
    refine w_cV1 (n := 22) pl_104 cl_12 s0_X12_findBest k_X12_268 (Nat.le_of_ble_eq_true rfl) dX12_prove_19 rfl (r_findBest hK ln (fun M2 g1_h g2_h g3_h g4_h => ?_))
    refine w_al0 (n := 23) dX12_prove_22 rfl ?_
    refine w_cV0 (n := 26) pl_104 cl_12 s0_X12_thinks k_X12_196 (Nat.le_of_ble_eq_true rfl) dX12_prove_23 rfl (r_thinks ?_)
    refine w_iconst (n := 27) (nI 0) dX12_prove_26 (by decide) rfl ?_
    refine w_is3 (n := 28) dX12_prove_27 rfl rfl (by decide) ?_
    have f3_h : dk_fr rN M (dk_row M2 107 (dk_cp (M2.1 105) (M2.1 107) 621)) := g1_h.tr rN_thinks
    have e5_h : ∀ k, M2.1 105 k = M.1 105 k := fun k => g1_h.2 105 k (by unfold rN; omega)
    refine r_pvL hb (by omega) (by omega) o4_h (g := M.1 105) (hr 4 (by decide) (by decide) (by decide)) (T0 := ePv K.2.1 (K.1 4 + 1) (sg_ys K.1 n9_h) (sg_fb K n9_h).2.1 (K.1 4) (sg_ys K.1 n9_h) 0 K.1 E) (fun M1 k1_h k2_h k3_h => ?_) (sg_ys K.1 n9_h + 1) 0 K.1 E _ (by omega) (by omega) o rfl rfl (by omega) (hr.N f3_h) (hT.N f3_h) dk_fr.rf (fun k hk => by rw [dk_row_at]; exact (if_pos hk).trans (e5_h k)) (hE.N f3_h) (by rw [dk_row_k (by decide)]; exact g3_h) rfl
    have x5_h : ∀ k, (dk_put (dk_row M1 105 (dk_cp (M1.1 107) (M1.1 105) 621)) 104 20 (nI (sg_ys K.1 n9_h))).1 105 k = M.1 105 k := fun k => by
      rw [dk_put_k (by omega), dk_row_at]
      unfold dk_cp
      split
      · exact k2_h k (by assumption)
      · rw [k1_h.2 105 k (by unfold rGp rG; omega), f3_h.2 105 k (by unfold rN; omega)]
    have k4_h : rE (ePv K.2.1 (K.1 4 + 1) (sg_ys K.1 n9_h) (sg_fb K n9_h).2.1 (K.1 4) (sg_ys K.1 n9_h) 0 K.1 E) (dk_row M1 105 (dk_cp (M1.1 107) (M1.1 105) 621)) := k3_h.fr (S := fun q k => q = 105) ⟨rfl, fun q k hn => dk_row_k hn k⟩ (fun q k z => by omega)
    have hq2_h := hq (dk_put (dk_row M1 105 (dk_cp (M1.1 107) (M1.1 105) 621)) 104 20 (nI (sg_ys K.1 n9_h))) (hK.row (fun k _ => x5_h k)) (by rw [e9_h]; exact k4_h.put eL_0) ⟨k1_h.1.trans f3_h.1, fun q k hn => ?_⟩
    · rw [e9_h] at hq2_h; exact hq2_h
    · by_cases c5_h : q = 105
      · rw [c5_h]; exact x5_h k
      · rw [dk_put_k (fun z => hn (by unfold rPv; omega)), dk_row_k c5_h, k1_h.2 q k (fun z => by unfold rGp rG at z; unfold rPv rN at hn; omega)]
        exact f3_h.2 q k (fun z => hn (Or.inl z))
  · skip
    refine w_if_ne (n := 9) 11 dX12_prove_6 (by decide) rfl (fun h => absurd h (by decide)) (fun _ => ?_)
    refine w_iconst (n := 10) (-1) dX12_prove_9 (by decide) rfl ?_
    refine w_retI dX12_prove_10 rfl ?_
    have hq2_h := hq M hK (by rw [show ef_prove K E n = (-1, E) from if_neg t3_h]; exact hE) dk_fr.rf
    rw [show ef_prove K E n = (-1, E) from if_neg t3_h] at hq2_h
    exact hq2_h
