/-! ===== the component's reader of a condition ===== -/
theorem pk_w1 {a b : Nat} (hb : b < 16384) (ha : a < 40000) : nI a <<< (nI 14 &&& 31) ||| nI b = nI (a * 16384 + b) := by
  rw [pk_shlN _ 14 (by decide) (by omega), nI_or, show a * 2 ^ 14 = 2 ^ 14 * a by omega, ← Nat.two_pow_add_eq_or_of_lt (i := 14) (by omega : b < 2 ^ 14) a]
theorem pk_w3 {a b : Nat} (hb : b < 16384) (ha : a < 50000) : nI a <<< (nI 14 &&& 31) ||| nI b = nI (a * 16384 + b) := by
  rw [pk_shlN _ 14 (by decide) (by omega), nI_or, show a * 2 ^ 14 = 2 ^ 14 * a by omega, ← Nat.two_pow_add_eq_or_of_lt (i := 14) (by omega : b < 2 ^ 14) a]
theorem pk_w2 {s c1_h c2_h : Nat} (hs : s ≤ 2) (h1_h : c1_h < 10005) (h2_h : c2_h < 10005) : (nI s <<< (nI 14 &&& 31) ||| nI c1_h) <<< (nI 14 &&& 31) ||| nI c2_h = nI ((s * 16384 + c1_h) * 16384 + c2_h) := by
  rw [pk_w1 (by omega) (by omega), pk_w3 (by omega) (by omega)]
def c_CP (β : Nat) (bt : Nat → Nat) (n N : Nat) (m : dk_Mt) (P : Nat → py_R) (hh : Nat) (as : List Value) (D : Nat) : Prop := ∀ (i C : Nat) (M : dk_Mem) (Q : Option Value → dk_Mem → Prop), cPS β bt n N i C M → ((P i).1 = true → ∀ M2 C', dk_fr (cPf β C) M M2 → cPS β bt n N (P i).2.1 C' M2 → C' + i ≤ C + (P i).2.1 → sgC (M2.1 (β + 4)) C C' hh (P i).2.2 → Q (some (.int 1)) M2) → ((P i).1 = false → ∀ M2, dk_fr (cPf β C) M M2 → M2.1 β 9 = nI (P i).2.1 → (P i).2.1 ≤ N → Q (some (.int 0)) M2) → dk_Call D m (.ref β :: as) M Q

set_option maxRecDepth 20000 in
theorem c8_readComparison {d : Nat} {β : Nat} (hβ : dk_bo β) {bt : Nat → Nat} {n N : Nat} : c_CP β bt n N mX8_readComparison (py_cmp (tk_k bt n) (tk_v bt n)) 1 [] (d + 1) := by
  intro i C M Q hS hg hb
  have sl := ct_sg (k := tk_k bt n (i + 1)) (v := tk_v bt n (i + 1)) lx_k0_le (fun h => tk_num h) (fun h => tk_sgn h)
  rw [show ct (tk_k bt n (i + 1)) (tk_v bt n (i + 1)) = tk_t bt n (i + 1) from rfl] at sl
  have tl := tk_tl bt n (i + 1)
  have h9_h := hS.2.1
  have f1_h : dk_fr (cPf β C) M (dk_put M β 9 (nI (i + 1))) := cPf_9 dk_fr.rf
  have f2_h : dk_fr (cPf β C) M (dk_put (dk_put M β 9 (nI (i + 1))) β 9 (nI (i + 1 + 1))) := cPf_9 f1_h
  refine dk_enter [some (.ref β), none, none, none] (by decide) (fun _ => rfl) (fun _ => Nat.le_of_ble_eq_true rfl) ?_
  refine w_al0 (n := 1) dX8_readComparison_0 rfl ?_
  refine g_R (n := 4) f_X8_34_8 (bo_is hβ) (bo_rf2 hβ).2.1 dX8_readComparison_1 rfl ?_
  refine w_al0 (n := 5) dX8_readComparison_4 rfl ?_
  refine g_I (n := 8) f_X8_40_8 (bo_is hβ) dX8_readComparison_5 rfl ?_
  refine i_iald (n := 9) (bo_ar2 hβ).2.1 (j := i) hS.2.1 (by have := hS.2.2.2.2; have := hS.1.1; omega) (by decide) (hS.1.2.2 (i) hS.2.2.2.2).1 dX8_readComparison_8 rfl ?_
  refine w_cS1 (n := 12) s0_X8_valueCode k_X8_116 (Nat.le_of_ble_eq_true rfl) dX8_readComparison_9 rfl (c8_valueCode (fun c1_h e1_h => ?_) (fun e1_h => ?_))
  · skip
    refine w_is1 (n := 13) dX8_readComparison_12 rfl rfl (by decide) ?_
    refine w_il1 (n := 14) dX8_readComparison_13 rfl ?_
    refine w_if_ge (n := 17) 19 dX8_readComparison_14 (by decide) rfl (fun z14_h => ?_) (fun z14_h => ?_)
    · skip
      refine w_al0 (n := 20) dX8_readComparison_19 rfl ?_
      refine w_dup (n := 21) rfl dX8_readComparison_20 rfl ?_
      refine g_I (n := 24) f_X8_40_8 (bo_is hβ) dX8_readComparison_21 rfl ?_
      rw [h9_h]
      refine w_iconst (n := 25) (nI 1) dX8_readComparison_24 (by decide) rfl ?_
      refine w_iadd (n := 26) dX8_readComparison_25 rfl ?_
      rw [nI_add]
      have kn : tk_k bt n i ≠ 25 := fun z => by unfold py_side at e1_h; rw [if_neg (by omega), if_neg (by omega)] at e1_h; cases e1_h
      have hS1 := hS.nx kn
      unfold py_cmp at hg hb
      rw [e1_h] at hg hb
      dsimp only at hg hb
      refine p_I (n := 29) f_X8_40_8 (bo_is hβ) dX8_readComparison_26 rfl ?_
      refine w_al0 (n := 30) dX8_readComparison_29 rfl ?_
      refine g_R (n := 33) f_X8_34_8 (bo_is hβ) (bo_rf2 hβ).2.1 dX8_readComparison_30 rfl ?_
      refine w_al0 (n := 34) dX8_readComparison_33 rfl ?_
      refine g_I (n := 37) f_X8_40_8 (bo_is hβ) dX8_readComparison_34 rfl ?_
      refine i_iald (n := 38) (bo_ar2 hβ).2.1 (j := i + 1) hS1.2.1 (by have := hS1.2.2.2.2; have := hS1.1.1; omega) (by decide) (hS1.1.2.2 (i + 1) hS1.2.2.2.2).1 dX8_readComparison_37 rfl ?_
      refine w_bipush (n := 40) (nI 20) dX8_readComparison_38 (by decide) rfl ?_
      refine w_isub (n := 41) dX8_readComparison_40 rfl ?_
      refine w_is2 (n := 42) dX8_readComparison_41 rfl rfl (by decide) ?_
      refine w_il2 (n := 43) dX8_readComparison_42 rfl ?_
      refine w_if_lt (n := 46) 51 dX8_readComparison_43 (by decide) rfl (fun z43_h => ?_) (fun z43_h => ?_)
      · skip
        refine w_iconst (n := 52) (nI 0) dX8_readComparison_51 (by decide) rfl ?_
        refine w_retZ0 dX8_readComparison_52 rfl ?_
        first | (have l20_h : ¬ 20 ≤ tk_t bt n (i + 1) := (fun z => by rw [pk_sub z] at z43_h; exact absurd z43_h (nI_lt0 (by omega))); rw [if_neg (fun z => l20_h (sl.1.mpr z).1)] at hb; exact hb rfl _ f1_h hS1.2.1 hS1.2.2.2.2) | (have t20_h : 20 ≤ tk_t bt n (i + 1) := Decidable.byContradiction (fun z => z43_h (pk_sneg (by decide) (by omega))); rw [pk_sub t20_h, q_le (by omega) (by decide)] at z48_h; rw [if_neg (fun z => z48_h (by have := (sl.1.mpr z).2; omega))] at hb; exact hb rfl _ f1_h hS1.2.1 hS1.2.2.2.2)
      · skip
        refine w_il2 (n := 47) dX8_readComparison_46 rfl ?_
        refine w_iconst (n := 48) (nI 2) dX8_readComparison_47 (by decide) rfl ?_
        refine w_ic_le (n := 51) 53 dX8_readComparison_48 (by decide) rfl (fun z48_h => ?_) (fun z48_h => ?_)
        · skip
          refine w_al0 (n := 54) dX8_readComparison_53 rfl ?_
          refine w_dup (n := 55) rfl dX8_readComparison_54 rfl ?_
          refine g_I (n := 58) f_X8_40_8 (bo_is hβ) dX8_readComparison_55 rfl ?_
          rw [hS1.2.1]
          refine w_iconst (n := 59) (nI 1) dX8_readComparison_58 (by decide) rfl ?_
          refine w_iadd (n := 60) dX8_readComparison_59 rfl ?_
          rw [nI_add]
          have t20_h : 20 ≤ tk_t bt n (i + 1) := Decidable.byContradiction (fun z => z43_h (pk_sneg (by decide) (by omega)))
          have es : nI (tk_t bt n (i + 1)) - nI 20 = nI (tk_t bt n (i + 1) - 20) := pk_sub t20_h
          rw [es, q_le (by omega) (by decide)] at z48_h
          have k21_h := sl.1.mp ⟨t20_h, by omega⟩
          have hS2 := hS1.nx (by omega)
          rw [if_pos k21_h] at hg hb
          refine p_I (n := 63) f_X8_40_8 (bo_is hβ) dX8_readComparison_60 rfl ?_
          refine w_al0 (n := 64) dX8_readComparison_63 rfl ?_
          refine g_R (n := 67) f_X8_34_8 (bo_is hβ) (bo_rf2 hβ).2.1 dX8_readComparison_64 rfl ?_
          refine w_al0 (n := 68) dX8_readComparison_67 rfl ?_
          refine g_I (n := 71) f_X8_40_8 (bo_is hβ) dX8_readComparison_68 rfl ?_
          refine i_iald (n := 72) (bo_ar2 hβ).2.1 (j := i + 1 + 1) hS2.2.1 (by have := hS2.2.2.2.2; have := hS2.1.1; omega) (by decide) (hS2.1.2.2 (i + 1 + 1) hS2.2.2.2.2).1 dX8_readComparison_71 rfl ?_
          refine w_cS1 (n := 75) s0_X8_valueCode k_X8_116 (Nat.le_of_ble_eq_true rfl) dX8_readComparison_72 rfl (c8_valueCode (fun c2_h e2_h => ?_) (fun e2_h => ?_))
          · skip
            refine w_is3 (n := 76) dX8_readComparison_75 rfl rfl (by decide) ?_
            refine w_il3 (n := 77) dX8_readComparison_76 rfl ?_
            refine w_if_ge (n := 80) 82 dX8_readComparison_77 (by decide) rfl (fun z77_h => ?_) (fun z77_h => ?_)
            · skip
              refine w_al0 (n := 83) dX8_readComparison_82 rfl ?_
              refine w_dup (n := 84) rfl dX8_readComparison_83 rfl ?_
              refine g_I (n := 87) f_X8_40_8 (bo_is hβ) dX8_readComparison_84 rfl ?_
              rw [hS2.2.1]
              refine w_iconst (n := 88) (nI 1) dX8_readComparison_87 (by decide) rfl ?_
              refine w_iadd (n := 89) dX8_readComparison_88 rfl ?_
              rw [nI_add]
              have hS3 := hS2.nx (by intro z; unfold py_side at e2_h; rw [if_neg (by omega), if_neg (by omega)] at e2_h; cases e2_h)
              rw [e2_h] at hg
              refine p_I (n := 92) f_X8_40_8 (bo_is hβ) dX8_readComparison_89 rfl ?_
              refine w_al0 (n := 93) dX8_readComparison_92 rfl ?_
              refine w_il2 (n := 94) dX8_readComparison_93 rfl ?_
              refine w_bipush (n := 96) (nI 14) dX8_readComparison_94 (by decide) rfl ?_
              refine w_ishl (n := 97) dX8_readComparison_96 rfl ?_
              refine w_il1 (n := 98) dX8_readComparison_97 rfl ?_
              refine w_ior (n := 99) dX8_readComparison_98 rfl ?_
              refine w_bipush (n := 101) (nI 14) dX8_readComparison_99 (by decide) rfl ?_
              refine w_ishl (n := 102) dX8_readComparison_101 rfl ?_
              refine w_il3 (n := 103) dX8_readComparison_102 rfl ?_
              refine w_ior (n := 104) dX8_readComparison_103 rfl ?_
              rw [es, pk_w2 (by omega) (py_side_le e1_h) (py_side_le e2_h)]
              refine w_cV1 (n := 107) (bo_is hβ) cl_8 s0_X8_emit k_X8_106 (Nat.le_of_ble_eq_true rfl) dX8_readComparison_104 rfl (c8_emit hβ hS3.2.2.1 (by have := hS.2.2.2.1; have := hS3.2.2.2.2; have := hS3.1.1; omega) ?_)
              refine w_iconst (n := 108) (nI 1) dX8_readComparison_107 (by decide) rfl ?_
              refine w_retZ1 dX8_readComparison_108 rfl ?_
              have hC := hS.2.2.2.1
              have e21_h := sl.2 k21_h
              refine hg rfl _ (C + 1) (cEm_f (cPf_9 f2_h) (Nat.le_refl _)) (hS3.em (by omega)) (by show C + 1 + i ≤ C + (i + 3); omega) ?_
              have sg := tk_sgn k21_h
              have q := sgC.cmp (f := (cEm β (dk_put (dk_put (dk_put M β 9 (nI (i + 1))) β 9 (nI (i + 1 + 1))) β 9 (nI (i + 1 + 1 + 1))) C (nI (((tk_t bt n (i + 1) - 20) * 16384 + c1_h) * 16384 + c2_h))).1 (β + 4)) (a := C) (s := tk_t bt n (i + 1) - 20) (by omega) (py_side_le e1_h) (py_side_le e2_h) cEm_s
              rw [show 60 + (tk_t bt n (i + 1) - 20) = tk_v bt n (i + 1) by omega] at q
              exact q
            · skip
              refine w_iconst (n := 81) (nI 0) dX8_readComparison_80 (by decide) rfl ?_
              refine w_retZ0 dX8_readComparison_81 rfl ?_
              first | (exfalso; have l1_h := py_side_le e2_h; exact z77_h ((q_le (by decide) (by omega)).mpr (Nat.zero_le _))) | exact hb rfl _ f2_h hS2.2.1 hS2.2.2.2.2
          · skip
            rw [e2_h] at hb
            refine w_is3 (n := 76) dX8_readComparison_75 rfl rfl (by decide) ?_
            refine w_il3 (n := 77) dX8_readComparison_76 rfl ?_
            refine w_if_ge (n := 80) 82 dX8_readComparison_77 (by decide) rfl (fun h => absurd h (by decide)) (fun _ => ?_)
            refine w_iconst (n := 81) (nI 0) dX8_readComparison_80 (by decide) rfl ?_
            refine w_retZ0 dX8_readComparison_81 rfl ?_
            first | (exfalso; have l1_h := py_side_le e2_h; exact z77_h ((q_le (by decide) (by omega)).mpr (Nat.zero_le _))) | exact hb rfl _ f2_h hS2.2.1 hS2.2.2.2.2
        · skip
          refine w_iconst (n := 52) (nI 0) dX8_readComparison_51 (by decide) rfl ?_
          refine w_retZ0 dX8_readComparison_52 rfl ?_
          first | (have l20_h : ¬ 20 ≤ tk_t bt n (i + 1) := (fun z => by rw [pk_sub z] at z43_h; exact absurd z43_h (nI_lt0 (by omega))); rw [if_neg (fun z => l20_h (sl.1.mpr z).1)] at hb; exact hb rfl _ f1_h hS1.2.1 hS1.2.2.2.2) | (have t20_h : 20 ≤ tk_t bt n (i + 1) := Decidable.byContradiction (fun z => z43_h (pk_sneg (by decide) (by omega))); rw [pk_sub t20_h, q_le (by omega) (by decide)] at z48_h; rw [if_neg (fun z => z48_h (by have := (sl.1.mpr z).2; omega))] at hb; exact hb rfl _ f1_h hS1.2.1 hS1.2.2.2.2)
    · skip
      refine w_iconst (n := 18) (nI 0) dX8_readComparison_17 (by decide) rfl ?_
      refine w_retZ0 dX8_readComparison_18 rfl ?_
      first | (exfalso; have l1_h := py_side_le e1_h; exact z14_h ((q_le (by decide) (by omega)).mpr (Nat.zero_le _))) | exact hb rfl M dk_fr.rf h9_h hS.2.2.2.2
  · skip
    unfold py_cmp at hb
    rw [e1_h] at hb
    refine w_is1 (n := 13) dX8_readComparison_12 rfl rfl (by decide) ?_
    refine w_il1 (n := 14) dX8_readComparison_13 rfl ?_
    refine w_if_ge (n := 17) 19 dX8_readComparison_14 (by decide) rfl (fun h => absurd h (by decide)) (fun _ => ?_)
    refine w_iconst (n := 18) (nI 0) dX8_readComparison_17 (by decide) rfl ?_
    refine w_retZ0 dX8_readComparison_18 rfl ?_
    first | (exfalso; have l1_h := py_side_le e1_h; exact z14_h ((q_le (by decide) (by omega)).mpr (Nat.zero_le _))) | exact hb rfl M dk_fr.rf h9_h hS.2.2.2.2

theorem py_neg_e {s : py_Sm} {c : Nat} (h : c % 2 = 0) : py_neg c s = s := by
  funext fe
  unfold py_neg
  rw [decide_eq_false (by omega), Bool.false_xor]
theorem py_neg_o {s : py_Sm} {c : Nat} (h : c % 2 = 1) : py_neg c s = fun fe => !(s fe) := by
  funext fe
  unfold py_neg
  rw [decide_eq_true h]
  cases s fe <;> rfl

set_option maxRecDepth 20000 in
theorem c_o112 {d : Nat} {M : dk_Mem} {Q : Option Value → dk_Mem → Prop} {β : Nat} (hβ : dk_bo β) {bt : Nat → Nat} {n N j o C c : Nat} {C1 hh : Nat} {s : py_Sm} {x3_h : Option Value} (hS : cPS β bt n N j C1 M) (hc : C1 + c ≤ j) (hl : C ≤ C1) (hs : sgC (M.1 (β + 4)) C C1 hh s) (hq : ∀ M2 C2, dk_fr (cPf β C) M M2 → cPS β bt n N j C2 M2 → C2 ≤ C1 + c → sgC (M2.1 (β + 4)) C C2 hh (py_neg c s) → Q (some (.int 1)) M2) : dk_W (d + 1) mX8_readOne 112 [some (.ref β), some (.int (nI o)), some (.int (nI (c % 2))), x3_h] [] M Q := by
  have h5_h := hS.2.2.2.2
  have h6_h := hS.1.1
  refine w_il2 (n := 113) dX8_readOne_112 rfl ?_
  refine w_if_eq (n := 116) 121 dX8_readOne_113 (by decide) rfl (fun z113_h => ?_) (fun z113_h => ?_)
  · skip
    refine w_iconst (n := 122) (nI 1) dX8_readOne_121 (by decide) rfl ?_
    refine w_retZ1 dX8_readOne_122 rfl ?_
    first | (have ec : c % 2 = 0 := (nI_eq (by omega) (by decide)).mp (z113_h : nI (c % 2) = nI 0); exact hq M C1 dk_fr.rf hS (by omega) (by rw [py_neg_e ec]; exact hs)) | (refine hq _ (C1 + 1) (cEm_f dk_fr.rf hl) (hS.em (by omega)) (by omega) ?_; rw [py_neg_o ec]; exact (hs.ext (fun k a b => cEm_4 (by omega))).nt cEm_s)
  · skip
    have ec : c % 2 = 1 := Decidable.byContradiction (fun q => z113_h (by rw [show c % 2 = 0 by omega]; rfl))
    refine w_al0 (n := 117) dX8_readOne_116 rfl ?_
    refine w_iconst (n := 118) (-1) dX8_readOne_117 (by decide) rfl ?_
    refine w_cV1 (n := 121) (bo_is hβ) cl_8 s0_X8_emit k_X8_106 (Nat.le_of_ble_eq_true rfl) dX8_readOne_118 rfl (c8_emit hβ hS.2.2.1 (by omega) ?_)
    refine w_iconst (n := 122) (nI 1) dX8_readOne_121 (by decide) rfl ?_
    refine w_retZ1 dX8_readOne_122 rfl ?_
    first | (have ec : c % 2 = 0 := (nI_eq (by omega) (by decide)).mp (z113_h : nI (c % 2) = nI 0); exact hq M C1 dk_fr.rf hS (by omega) (by rw [py_neg_e ec]; exact hs)) | (refine hq _ (C1 + 1) (cEm_f dk_fr.rf hl) (hS.em (by omega)) (by omega) ?_; rw [py_neg_o ec]; exact (hs.ext (fun k a b => cEm_4 (by omega))).nt cEm_s)

set_option maxRecDepth 20000 in
theorem c_o51 {d : Nat} {M : dk_Mem} {Q : Option Value → dk_Mem → Prop} {β : Nat} (hβ : dk_bo β) {bt : Nat → Nat} {n N j o C c : Nat} {e D : Nat} {x3_h : Option Value} (hoe : o + e = 3) (hIH : ∀ e1_h, e = e1_h + 1 → c_CP β bt n N mX8_readCondition (py_cnd (tk_k bt n) (tk_v bt n) (py_sub (tk_k bt n) (tk_v bt n) e1_h)) (2 * e1_h + 3) [.int (nI (o + 1))] (d + D + 1)) (hS : cPS β bt n N j C M) (hj : C + c ≤ j) (hg : (py_one1 (tk_k bt n) (tk_v bt n) (py_sub (tk_k bt n) (tk_v bt n) e) c j).1 = true → ∀ M2 C1, dk_fr (cPf β C) M M2 → cPS β bt n N (py_one1 (tk_k bt n) (tk_v bt n) (py_sub (tk_k bt n) (tk_v bt n) e) c j).2.1 C1 M2 → C1 + j ≤ C + c + (py_one1 (tk_k bt n) (tk_v bt n) (py_sub (tk_k bt n) (tk_v bt n) e) c j).2.1 → sgC (M2.1 (β + 4)) C C1 (2 * e + 1) (py_one1 (tk_k bt n) (tk_v bt n) (py_sub (tk_k bt n) (tk_v bt n) e) c j).2.2 → Q (some (.int 1)) M2) (hb : (py_one1 (tk_k bt n) (tk_v bt n) (py_sub (tk_k bt n) (tk_v bt n) e) c j).1 = false → ∀ M2, dk_fr (cPf β C) M M2 → M2.1 β 9 = nI (py_one1 (tk_k bt n) (tk_v bt n) (py_sub (tk_k bt n) (tk_v bt n) e) c j).2.1 → (py_one1 (tk_k bt n) (tk_v bt n) (py_sub (tk_k bt n) (tk_v bt n) e) c j).2.1 ≤ N → Q (some (.int 0)) M2) : dk_W (d + D + 2) mX8_readOne 51 [some (.ref β), some (.int (nI o)), some (.int (nI (c % 2))), x3_h] [] M Q := by
  have tl := tk_tl bt n j
  have te := (tk_te bt n j).2.1
  have h5_h := hS.2.2.2.2
  have h6_h := hS.1.1
  unfold py_one1 at hg hb
  refine w_al0 (n := 52) dX8_readOne_51 rfl ?_
  refine g_R (n := 55) f_X8_34_8 (bo_is hβ) (bo_rf2 hβ).2.1 dX8_readOne_52 rfl ?_
  refine w_al0 (n := 56) dX8_readOne_55 rfl ?_
  refine g_I (n := 59) f_X8_40_8 (bo_is hβ) dX8_readOne_56 rfl ?_
  refine i_iald (n := 60) (bo_ar2 hβ).2.1 (j := j) hS.2.1 (by have := hS.2.2.2.2; have := hS.1.1; omega) (by decide) (hS.1.2.2 (j) hS.2.2.2.2).1 dX8_readOne_59 rfl ?_
  refine w_bipush (n := 62) (nI 23) dX8_readOne_60 (by decide) rfl ?_
  refine w_ic_ne (n := 65) 103 dX8_readOne_62 (by decide) rfl (fun z62_h => ?_) (fun z62_h => ?_)
  · skip
    have k1_h : ¬ tk_k bt n j = 22 := fun z => z62_h (by rw [te.mpr z])
    rw [if_neg k1_h] at hg hb
    refine w_al0 (n := 104) dX8_readOne_103 rfl ?_
    refine w_cV0 (n := 107) (bo_is hβ) cl_8 s0_X8_readComparison k_X8_113 (Nat.le_of_ble_eq_true rfl) dX8_readOne_104 rfl (c8_readComparison (d := d + D) hβ j C M _ hS (fun g0_h M3 C1 g1_h g2_h g3_h g4_h => ?_) (fun g0_h M3 g1_h g2_h g3_h => ?_))
    · skip
      rw [if_pos g0_h] at hg
      dsimp only at hg
      refine w_if_ne (n := 110) 112 dX8_readOne_107 (by decide) rfl (fun _ => ?_) (fun h => absurd h (by decide))
      first | exact c_o112 (d := d + D + 1) hβ hS4 (by omega) (Nat.le_of_lt g4_h.1) (g4_h.ext (fun k a b => dk_put_k (by omega))) (fun M9 C2 a b l s => hg rfl M9 C2 ((cPf_9 (f1_h.tr g1_h)).tr a) b (by omega) (s.mono (by omega))) | exact c_o112 (d := d + D + 1) hβ g2_h (by have := g2_h.2.2.2.1; omega) (Nat.le_of_lt g4_h.1) g4_h (fun M9 C2 a b l s => hg rfl M9 C2 (g1_h.tr a) b (by omega) (s.mono (by omega)))
    · skip
      rw [if_neg (by rw [g0_h]; decide)] at hb
      refine w_if_ne (n := 110) 112 dX8_readOne_107 (by decide) rfl (fun h => absurd h (by decide)) (fun _ => ?_)
      refine w_iconst (n := 111) (nI 0) dX8_readOne_110 (by decide) rfl ?_
      refine w_retZ0 dX8_readOne_111 rfl ?_
      exact hb rfl M3 g1_h g2_h g3_h
  · skip
    rw [nI_eq (by omega) (by decide)] at z62_h
    have k1_h := te.mp z62_h
    rw [if_pos k1_h] at hg hb
    refine w_il1 (n := 66) dX8_readOne_65 rfl ?_
    refine w_iconst (n := 67) (nI 3) dX8_readOne_66 (by decide) rfl ?_
    refine w_ic_lt (n := 70) 72 dX8_readOne_67 (by decide) rfl (fun z67_h => ?_) (fun z67_h => ?_)
    · skip
      refine w_al0 (n := 73) dX8_readOne_72 rfl ?_
      refine w_dup (n := 74) rfl dX8_readOne_73 rfl ?_
      refine g_I (n := 77) f_X8_40_8 (bo_is hβ) dX8_readOne_74 rfl ?_
      rw [hS.2.1]
      refine w_iconst (n := 78) (nI 1) dX8_readOne_77 (by decide) rfl ?_
      refine w_iadd (n := 79) dX8_readOne_78 rfl ?_
      rw [nI_add]
      have hS1 := hS.nx (by omega)
      have f1_h : dk_fr (cPf β C) M (dk_put M β 9 (nI (j + 1))) := cPf_9 dk_fr.rf
      rw [nI_ltI (by omega) (by decide)] at z67_h
      obtain ⟨e1_h, he1_h⟩ : ∃ e1_h, e = e1_h + 1 := ⟨e - 1, by omega⟩
      subst he1_h
      rw [show py_sub (tk_k bt n) (tk_v bt n) (e1_h + 1) = some (py_cnd (tk_k bt n) (tk_v bt n) (py_sub (tk_k bt n) (tk_v bt n) e1_h)) from rfl] at hg hb
      dsimp only at hg hb
      refine p_I (n := 82) f_X8_40_8 (bo_is hβ) dX8_readOne_79 rfl ?_
      refine w_al0 (n := 83) dX8_readOne_82 rfl ?_
      refine w_il1 (n := 84) dX8_readOne_83 rfl ?_
      refine w_iconst (n := 85) (nI 1) dX8_readOne_84 (by decide) rfl ?_
      refine w_iadd (n := 86) dX8_readOne_85 rfl ?_
      rw [nI_add]
      refine w_cV1 (n := 89) (bo_is hβ) cl_8 s0_X8_readCondition k_X8_97 (Nat.le_of_ble_eq_true rfl) dX8_readOne_86 rfl (hIH e1_h rfl (j + 1) C _ _ hS1 (fun g0_h M3 C1 g1_h g2_h g3_h g4_h => ?_) (fun g0_h M3 g1_h g2_h g3_h => ?_))
      · skip
        rw [if_pos g0_h] at hg hb
        refine w_if_eq (n := 92) 101 dX8_readOne_89 (by decide) rfl (fun h => absurd h (by decide)) (fun _ => ?_)
        refine w_al0 (n := 93) dX8_readOne_92 rfl ?_
        refine w_bipush (n := 95) (nI 24) dX8_readOne_93 (by decide) rfl ?_
        refine w_cV1 (n := 98) (bo_is hβ) cl_8 s0_X8_passes k_X8_100 (Nat.le_of_ble_eq_true rfl) dX8_readOne_95 rfl (c8_passes (w := 24) (k := 23) hβ g2_h (by decide) (by decide) (tk_te bt n _).2.2.1 (fun k2_h hS4 => ?_) (fun k2_h => ?_))
        · skip
          rw [if_pos k2_h] at hg
          dsimp only at hg
          refine w_if_ne (n := 101) 112 dX8_readOne_98 (by decide) rfl (fun _ => ?_) (fun h => absurd h (by decide))
          first | exact c_o112 (d := d + D + 1) hβ hS4 (by omega) (Nat.le_of_lt g4_h.1) (g4_h.ext (fun k a b => dk_put_k (by omega))) (fun M9 C2 a b l s => hg rfl M9 C2 ((cPf_9 (f1_h.tr g1_h)).tr a) b (by omega) (s.mono (by omega))) | exact c_o112 (d := d + D + 1) hβ g2_h (by have := g2_h.2.2.2.1; omega) (Nat.le_of_lt g4_h.1) g4_h (fun M9 C2 a b l s => hg rfl M9 C2 (g1_h.tr a) b (by omega) (s.mono (by omega)))
        · skip
          rw [if_neg k2_h] at hb
          refine w_if_ne (n := 101) 112 dX8_readOne_98 (by decide) rfl (fun h => absurd h (by decide)) (fun _ => ?_)
          refine w_iconst (n := 102) (nI 0) dX8_readOne_101 (by decide) rfl ?_
          refine w_retZ0 dX8_readOne_102 rfl ?_
          first | exact hb rfl M3 (f1_h.tr g1_h) g2_h.2.1 g2_h.2.2.2.2 | exact hb rfl M3 (f1_h.tr g1_h) g2_h g3_h
      · skip
        rw [if_neg (by rw [g0_h]; decide)] at hb
        refine w_if_eq (n := 92) 101 dX8_readOne_89 (by decide) rfl (fun _ => ?_) (fun h => absurd (by decide) h)
        refine w_iconst (n := 102) (nI 0) dX8_readOne_101 (by decide) rfl ?_
        refine w_retZ0 dX8_readOne_102 rfl ?_
        first | exact hb rfl M3 (f1_h.tr g1_h) g2_h.2.1 g2_h.2.2.2.2 | exact hb rfl M3 (f1_h.tr g1_h) g2_h g3_h
    · skip
      refine w_iconst (n := 71) (nI 0) dX8_readOne_70 (by decide) rfl ?_
      refine w_retZ0 dX8_readOne_71 rfl ?_
      rw [nI_ltI (by omega) (by decide)] at z67_h
      have e0_h : e = 0 := by omega
      subst e0_h
      exact hb rfl M dk_fr.rf hS.2.1 h5_h

set_option maxRecDepth 20000 in
theorem c_o4z {d : Nat} {M : dk_Mem} {Q : Option Value → dk_Mem → Prop} {β : Nat} {x1_h x2_h : Option Value} (hx : dk_W d mX8_readOne 51 [some (.ref β), x1_h, x2_h, some (.int (nI 200))] [] M Q) : dk_W d mX8_readOne 4 [some (.ref β), x1_h, x2_h, some (.int (nI 200))] [] M Q := by
  refine w_il3 (n := 5) dX8_readOne_4 rfl ?_
  refine w_sipush (n := 8) (nI 200) dX8_readOne_5 (by decide) rfl ?_
  refine w_ic_ge (n := 11) 51 dX8_readOne_8 (by decide) rfl (fun _ => ?_) (fun h => absurd (by decide) h)
  exact hx

set_option maxRecDepth 20000 in
theorem c_o4 {d : Nat} {M : dk_Mem} {Q : Option Value → dk_Mem → Prop} {β : Nat} (hβ : dk_bo β) {bt : Nat → Nat} {n N i o C : Nat} {e D : Nat} (hoe : o + e = 3) (hIH : ∀ e1_h, e = e1_h + 1 → c_CP β bt n N mX8_readCondition (py_cnd (tk_k bt n) (tk_v bt n) (py_sub (tk_k bt n) (tk_v bt n) e1_h)) (2 * e1_h + 3) [.int (nI (o + 1))] (d + D + 1)) (hCi : C ≤ i) {R : py_R} (hg : R.1 = true → ∀ M2 C1, dk_fr (cPf β C) M M2 → cPS β bt n N R.2.1 C1 M2 → C1 + i ≤ C + R.2.1 → sgC (M2.1 (β + 4)) C C1 (2 * e + 1) R.2.2 → Q (some (.int 1)) M2) (hb : R.1 = false → ∀ M2, dk_fr (cPf β C) M M2 → M2.1 β 9 = nI R.2.1 → R.2.1 ≤ N → Q (some (.int 0)) M2) : ∀ (f c : Nat) (M1 : dk_Mem), c + f = 200 → dk_fr (cPf β C) M M1 → cPS β bt n N (i + c) C M1 → R = py_one1 (tk_k bt n) (tk_v bt n) (py_sub (tk_k bt n) (tk_v bt n) e) (py_nots (tk_k bt n) f (i + c) - i) (py_nots (tk_k bt n) f (i + c)) → dk_W (d + D + 2) mX8_readOne 4 [some (.ref β), some (.int (nI o)), some (.int (nI (c % 2))), some (.int (nI c))] [] M1 Q := by
  have fin : ∀ (c : Nat) (M1 : dk_Mem), dk_fr (cPf β C) M M1 → cPS β bt n N (i + c) C M1 → R = py_one1 (tk_k bt n) (tk_v bt n) (py_sub (tk_k bt n) (tk_v bt n) e) c (i + c) → dk_W (d + D + 2) mX8_readOne 51 [some (.ref β), some (.int (nI o)), some (.int (nI (c % 2))), some (.int (nI c))] [] M1 Q := fun c M1 hf hS hR => by
    refine c_o51 hβ hoe hIH hS (by omega) (fun g0_h M9 C1 a b k s => ?_) (fun g0_h M9 a b k => ?_)
    · rw [← hR] at g0_h b k s
      exact hg g0_h M9 C1 (hf.tr a) b (by omega) s
    · rw [← hR] at g0_h b k
      exact hb g0_h M9 (hf.tr a) b k
  intro f
  induction f with
  | zero =>
    intro c M1 hc hf hS hR
    have e2_h : c = 200 := by omega
    subst e2_h
    rw [py_nots, show i + 200 - i = 200 by omega] at hR
    exact c_o4z (fin 200 M1 hf hS hR)
  | succ f ih =>
    intro c M1 hc hf hS hR
    rw [py_nots] at hR
    have tl := tk_tl bt n (i + c)
    have te := (tk_te bt n (i + c)).1
    refine w_il3 (n := 5) dX8_readOne_4 rfl ?_
    refine w_sipush (n := 8) (nI 200) dX8_readOne_5 (by decide) rfl ?_
    refine w_ic_ge (n := 11) 51 dX8_readOne_8 (by decide) rfl (fun z8_h => ?_) (fun z8_h => ?_)
    · skip
      first | (exfalso; rw [q_le (by decide) (by omega)] at z8_h; omega) | (have k1_h : ¬ tk_k bt n (i + c) = 17 := (fun z => z22_h (by rw [te.mpr z])); rw [if_neg k1_h, show i + c - i = c by omega] at hR; exact fin c M1 hf hS hR)
    · skip
      refine w_al0 (n := 12) dX8_readOne_11 rfl ?_
      refine g_R (n := 15) f_X8_34_8 (bo_is hβ) (bo_rf2 hβ).2.1 dX8_readOne_12 rfl ?_
      refine w_al0 (n := 16) dX8_readOne_15 rfl ?_
      refine g_I (n := 19) f_X8_40_8 (bo_is hβ) dX8_readOne_16 rfl ?_
      refine i_iald (n := 20) (bo_ar2 hβ).2.1 (j := i + c) hS.2.1 (by have := hS.2.2.2.2; have := hS.1.1; omega) (by decide) (hS.1.2.2 (i + c) hS.2.2.2.2).1 dX8_readOne_19 rfl ?_
      refine w_bipush (n := 22) (nI 12) dX8_readOne_20 (by decide) rfl ?_
      refine w_ic_ne (n := 25) 51 dX8_readOne_22 (by decide) rfl (fun z22_h => ?_) (fun z22_h => ?_)
      · skip
        first | (exfalso; rw [q_le (by decide) (by omega)] at z8_h; omega) | (have k1_h : ¬ tk_k bt n (i + c) = 17 := (fun z => z22_h (by rw [te.mpr z])); rw [if_neg k1_h, show i + c - i = c by omega] at hR; exact fin c M1 hf hS hR)
      · skip
        rw [nI_eq (by omega) (by decide)] at z22_h
        have k1_h := te.mp z22_h
        rw [if_pos k1_h] at hR
        refine w_al0 (n := 26) dX8_readOne_25 rfl ?_
        refine w_dup (n := 27) rfl dX8_readOne_26 rfl ?_
        refine g_I (n := 30) f_X8_40_8 (bo_is hβ) dX8_readOne_27 rfl ?_
        rw [hS.2.1]
        refine w_iconst (n := 31) (nI 1) dX8_readOne_30 (by decide) rfl ?_
        refine w_iadd (n := 32) dX8_readOne_31 rfl ?_
        rw [nI_add]
        have hS1 := hS.nx (by omega)
        have f1_h : dk_fr (cPf β C) M (dk_put M1 β 9 (nI (i + c + 1))) := cPf_9 hf
        refine p_I (n := 35) f_X8_40_8 (bo_is hβ) dX8_readOne_32 rfl ?_
        refine w_il2 (n := 36) dX8_readOne_35 rfl ?_
        refine w_if_ne (n := 39) 43 dX8_readOne_36 (by decide) rfl (fun z36_h => ?_) (fun z36_h => ?_)
        · skip
          refine w_iconst (n := 44) (nI 0) dX8_readOne_43 (by decide) rfl ?_
          refine w_is2 (n := 45) dX8_readOne_44 rfl rfl (by decide) ?_
          refine w_inc3 (n := 48) (nI 1) dX8_readOne_45 (by decide) rfl rfl (by decide) ?_
          refine w_goto 4 dX8_readOne_48 (by decide) ?_
          rw [nI_add]
          have q := ih (c + 1) _ (by omega) f1_h hS1 hR
          first | (have ec : c % 2 = 1 := (Decidable.byContradiction (fun w => z36_h (by rw [show c % 2 = 0 by omega]; rfl))); rw [show (c + 1) % 2 = 0 by omega] at q; exact q) | (have ec : c % 2 = 0 := (nI_eq (by omega) (by decide)).mp (z36_h : nI (c % 2) = nI 0); rw [show (c + 1) % 2 = 1 by omega] at q; exact q)
        · skip
          refine w_iconst (n := 40) (nI 1) dX8_readOne_39 (by decide) rfl ?_
          refine w_goto 44 dX8_readOne_40 (by decide) ?_
          refine w_is2 (n := 45) dX8_readOne_44 rfl rfl (by decide) ?_
          refine w_inc3 (n := 48) (nI 1) dX8_readOne_45 (by decide) rfl rfl (by decide) ?_
          refine w_goto 4 dX8_readOne_48 (by decide) ?_
          rw [nI_add]
          have q := ih (c + 1) _ (by omega) f1_h hS1 hR
          first | (have ec : c % 2 = 1 := (Decidable.byContradiction (fun w => z36_h (by rw [show c % 2 = 0 by omega]; rfl))); rw [show (c + 1) % 2 = 0 by omega] at q; exact q) | (have ec : c % 2 = 0 := (nI_eq (by omega) (by decide)).mp (z36_h : nI (c % 2) = nI 0); rw [show (c + 1) % 2 = 1 by omega] at q; exact q)

set_option maxRecDepth 20000 in
theorem c_oneS {d D : Nat} {β : Nat} (hβ : dk_bo β) {bt : Nat → Nat} {n N o e : Nat} (hoe : o + e = 3) (hIH : ∀ e1_h, e = e1_h + 1 → c_CP β bt n N mX8_readCondition (py_cnd (tk_k bt n) (tk_v bt n) (py_sub (tk_k bt n) (tk_v bt n) e1_h)) (2 * e1_h + 3) [.int (nI (o + 1))] (d + D + 1)) : c_CP β bt n N mX8_readOne (py_one (tk_k bt n) (tk_v bt n) (py_sub (tk_k bt n) (tk_v bt n) e)) (2 * e + 1) [.int (nI o)] (d + D + 2) := by
  intro i C M Q hS hg hb
  refine dk_enter [some (.ref β), some (.int (nI o)), none, none] (by decide) (fun _ => rfl) (fun _ => Nat.le_of_ble_eq_true rfl) ?_
  refine w_iconst (n := 1) (nI 0) dX8_readOne_0 (by decide) rfl ?_
  refine w_is2 (n := 2) dX8_readOne_1 rfl rfl (by decide) ?_
  refine w_iconst (n := 3) (nI 0) dX8_readOne_2 (by decide) rfl ?_
  refine w_is3 (n := 4) dX8_readOne_3 rfl rfl (by decide) ?_
  exact c_o4 hβ hoe hIH hS.2.2.2.1 hg hb 200 0 M (by omega) dk_fr.rf hS rfl

set_option maxRecDepth 20000 in
theorem c_readAllOfZ {d : Nat} {M : dk_Mem} {Q : Option Value → dk_Mem → Prop} {β : Nat} {x1_h : Option Value} (hx : Q (some (.int 1)) M) : dk_W d mX8_readAllOf 12 [some (.ref β), x1_h, some (.int (nI 200))] [] M Q := by
  refine w_il2 (n := 13) dX8_readAllOf_12 rfl ?_
  refine w_sipush (n := 16) (nI 200) dX8_readAllOf_13 (by decide) rfl ?_
  refine w_ic_ge (n := 19) 65 dX8_readAllOf_16 (by decide) rfl (fun _ => ?_) (fun h => absurd (by decide) h)
  refine w_iconst (n := 66) (nI 1) dX8_readAllOf_65 (by decide) rfl ?_
  refine w_retZ1 dX8_readAllOf_66 rfl ?_
  exact hx

set_option maxRecDepth 20000 in
theorem c_readAllOfQ {d D : Nat} {M : dk_Mem} {Q : Option Value → dk_Mem → Prop} {β : Nat} (hβ : dk_bo β) {bt : Nat → Nat} {n N o C i h : Nat} {el : Nat → py_R} (hinc : py_inc el) (hEl : c_CP β bt n N mX8_readOne el h [.int (nI o)] (d + D + 2)) {R : py_R} (hg : R.1 = true → ∀ M2 C1, dk_fr (cPf β C) M M2 → cPS β bt n N R.2.1 C1 M2 → C1 + i ≤ C + R.2.1 → sgC (M2.1 (β + 4)) C C1 (h + 1) R.2.2 → Q (some (.int 1)) M2) (hb : R.1 = false → ∀ M2, dk_fr (cPf β C) M M2 → M2.1 β 9 = nI R.2.1 → R.2.1 ≤ N → Q (some (.int 0)) M2) : ∀ (f k j C1 : Nat) (s : py_Sm) (M1 : dk_Mem), k + f = 200 → dk_fr (cPf β C) M M1 → cPS β bt n N j C1 M1 → C1 + i ≤ C + j → sgC (M1.1 (β + 4)) C C1 (h + 1) s → R = py_ch (tk_k bt n) el 16 and f j s → dk_W (d + D + 3) mX8_readAllOf 12 [some (.ref β), some (.int (nI o)), some (.int (nI k))] [] M1 Q := by
  intro f
  induction f with
  | zero =>
    intro k j C1 s M1 hk hf hS hr hs hR
    have e2_h : k = 200 := by omega
    subst e2_h
    rw [py_ch] at hR
    subst hR
    exact c_readAllOfZ (hg rfl M1 C1 hf hS hr hs)
  | succ f ih =>
    intro k j C1 s M1 hk hf hS hr hs hR
    rw [py_ch] at hR
    have tl := tk_tl bt n j
    have te := (tk_te bt n j).2.2.2.2.2.2.1
    have gl := hs.1
    refine w_il2 (n := 13) dX8_readAllOf_12 rfl ?_
    refine w_sipush (n := 16) (nI 200) dX8_readAllOf_13 (by decide) rfl ?_
    refine w_ic_ge (n := 19) 65 dX8_readAllOf_16 (by decide) rfl (fun z16_h => ?_) (fun z16_h => ?_)
    · skip
      refine w_iconst (n := 66) (nI 1) dX8_readAllOf_65 (by decide) rfl ?_
      refine w_retZ1 dX8_readAllOf_66 rfl ?_
      first | (exfalso; rw [q_le (by decide) (by omega)] at z16_h; omega) | (have k1_h : ¬ tk_k bt n j = 16 := (fun z => z30_h (by rw [te.mpr z])); rw [if_neg k1_h] at hR; subst hR; exact hg rfl M1 C1 hf hS hr hs)
    · skip
      refine w_al0 (n := 20) dX8_readAllOf_19 rfl ?_
      refine g_R (n := 23) f_X8_34_8 (bo_is hβ) (bo_rf2 hβ).2.1 dX8_readAllOf_20 rfl ?_
      refine w_al0 (n := 24) dX8_readAllOf_23 rfl ?_
      refine g_I (n := 27) f_X8_40_8 (bo_is hβ) dX8_readAllOf_24 rfl ?_
      refine i_iald (n := 28) (bo_ar2 hβ).2.1 (j := j) hS.2.1 (by have := hS.2.2.2.2; have := hS.1.1; omega) (by decide) (hS.1.2.2 (j) hS.2.2.2.2).1 dX8_readAllOf_27 rfl ?_
      refine w_bipush (n := 30) (nI 11) dX8_readAllOf_28 (by decide) rfl ?_
      refine w_ic_ne (n := 33) 65 dX8_readAllOf_30 (by decide) rfl (fun z30_h => ?_) (fun z30_h => ?_)
      · skip
        refine w_iconst (n := 66) (nI 1) dX8_readAllOf_65 (by decide) rfl ?_
        refine w_retZ1 dX8_readAllOf_66 rfl ?_
        first | (exfalso; rw [q_le (by decide) (by omega)] at z16_h; omega) | (have k1_h : ¬ tk_k bt n j = 16 := (fun z => z30_h (by rw [te.mpr z])); rw [if_neg k1_h] at hR; subst hR; exact hg rfl M1 C1 hf hS hr hs)
      · skip
        rw [nI_eq (by omega) (by decide)] at z30_h
        have k1_h := te.mp z30_h
        rw [if_pos k1_h] at hR
        refine w_al0 (n := 34) dX8_readAllOf_33 rfl ?_
        refine w_dup (n := 35) rfl dX8_readAllOf_34 rfl ?_
        refine g_I (n := 38) f_X8_40_8 (bo_is hβ) dX8_readAllOf_35 rfl ?_
        rw [hS.2.1]
        refine w_iconst (n := 39) (nI 1) dX8_readAllOf_38 (by decide) rfl ?_
        refine w_iadd (n := 40) dX8_readAllOf_39 rfl ?_
        rw [nI_add]
        have hS1 := hS.nx (by omega)
        have f1_h : dk_fr (cPf β C) M (dk_put M1 β 9 (nI (j + 1))) := cPf_9 hf
        refine p_I (n := 43) f_X8_40_8 (bo_is hβ) dX8_readAllOf_40 rfl ?_
        refine w_al0 (n := 44) dX8_readAllOf_43 rfl ?_
        refine w_il1 (n := 45) dX8_readAllOf_44 rfl ?_
        refine w_cV1 (n := 48) (bo_is hβ) cl_8 s0_X8_readOne k_X8_110 (Nat.le_of_ble_eq_true rfl) dX8_readAllOf_45 rfl (hEl (j + 1) C1 _ _ hS1 (fun g0_h M3 C2 g1_h g2_h g3_h g4_h => ?_) (fun g0_h M3 g1_h g2_h g3_h => ?_))
        · skip
          rw [if_pos g0_h] at hR
          have inc := hinc _ g0_h
          have gl2_h := g4_h.1
          have h8_h := g2_h.2.2.2.2
          have h9_h := g2_h.1.1
          have h7_h := hS.2.2.2.1
          refine w_if_ne (n := 51) 53 dX8_readAllOf_48 (by decide) rfl (fun _ => ?_) (fun h => absurd h (by decide))
          refine w_al0 (n := 54) dX8_readAllOf_53 rfl ?_
          refine w_bipush (n := 56) (-2) dX8_readAllOf_54 (by decide) rfl ?_
          refine w_cV1 (n := 59) (bo_is hβ) cl_8 s0_X8_emit k_X8_106 (Nat.le_of_ble_eq_true rfl) dX8_readAllOf_56 rfl (c8_emit hβ g2_h.2.2.1 (by omega) ?_)
          refine w_inc2 (n := 62) (nI 1) dX8_readAllOf_59 (by decide) rfl rfl (by decide) ?_
          refine w_goto 12 dX8_readAllOf_62 (by decide) ?_
          rw [nI_add]
          refine ih (k + 1) _ (C2 + 1) _ _ (by omega) (cEm_f (f1_h.tr (cPf_up g1_h (Nat.le_of_lt gl))) (by omega)) (g2_h.em (by omega)) (by omega) ?_ hR
          refine sgC.an (hs.ext (fun x a b => ?_)) (g4_h.ext (fun x a b => cEm_4 (by omega))) cEm_s
          rw [cEm_4 (by omega), g1_h.2 (β + 4) x (by unfold cPf; omega), dk_put_k (by omega)]
        · skip
          rw [if_neg (by rw [g0_h]; decide)] at hR
          subst hR
          refine w_if_ne (n := 51) 53 dX8_readAllOf_48 (by decide) rfl (fun h => absurd h (by decide)) (fun _ => ?_)
          refine w_iconst (n := 52) (nI 0) dX8_readAllOf_51 (by decide) rfl ?_
          refine w_retZ0 dX8_readAllOf_52 rfl ?_
          exact hb rfl M3 (f1_h.tr (cPf_up g1_h (Nat.le_of_lt gl))) g2_h g3_h

set_option maxRecDepth 20000 in
theorem c_readAllOfS {d D : Nat} {β : Nat} (hβ : dk_bo β) {bt : Nat → Nat} {n N o h : Nat} {el : Nat → py_R} (hinc : py_inc el) (hEl : c_CP β bt n N mX8_readOne el h [.int (nI o)] (d + D + 2)) : c_CP β bt n N mX8_readAllOf (py_sq (tk_k bt n) el 16 and) (h + 1) [.int (nI o)] (d + D + 3) := by
  intro i C M Q hS hg hb
  unfold py_sq at hg hb
  refine dk_enter [some (.ref β), some (.int (nI o)), none] (by decide) (fun _ => rfl) (fun _ => Nat.le_of_ble_eq_true rfl) ?_
  refine w_al0 (n := 1) dX8_readAllOf_0 rfl ?_
  refine w_il1 (n := 2) dX8_readAllOf_1 rfl ?_
  refine w_cV1 (n := 5) (bo_is hβ) cl_8 s0_X8_readOne k_X8_110 (Nat.le_of_ble_eq_true rfl) dX8_readAllOf_2 rfl (hEl i C M _ hS (fun g0_h M3 C2 g1_h g2_h g3_h g4_h => ?_) (fun g0_h M3 g1_h g2_h g3_h => ?_))
  · skip
    rw [if_pos g0_h] at hg hb
    refine w_if_ne (n := 8) 10 dX8_readAllOf_5 (by decide) rfl (fun _ => ?_) (fun h => absurd h (by decide))
    refine w_iconst (n := 11) (nI 0) dX8_readAllOf_10 (by decide) rfl ?_
    refine w_is2 (n := 12) dX8_readAllOf_11 rfl rfl (by decide) ?_
    exact c_readAllOfQ hβ hinc hEl hg hb 200 0 (el i).2.1 C2 (el i).2.2 M3 (by omega) g1_h g2_h g3_h (g4_h.mono (by omega)) rfl
  · skip
    rw [if_neg (by rw [g0_h]; decide)] at hb
    refine w_if_ne (n := 8) 10 dX8_readAllOf_5 (by decide) rfl (fun h => absurd h (by decide)) (fun _ => ?_)
    refine w_iconst (n := 9) (nI 0) dX8_readAllOf_8 (by decide) rfl ?_
    refine w_retZ0 dX8_readAllOf_9 rfl ?_
    exact hb rfl M3 g1_h g2_h g3_h

set_option maxRecDepth 20000 in
theorem c_readConditionZ {d : Nat} {M : dk_Mem} {Q : Option Value → dk_Mem → Prop} {β : Nat} {x1_h : Option Value} (hx : Q (some (.int 1)) M) : dk_W d mX8_readCondition 12 [some (.ref β), x1_h, some (.int (nI 200))] [] M Q := by
  refine w_il2 (n := 13) dX8_readCondition_12 rfl ?_
  refine w_sipush (n := 16) (nI 200) dX8_readCondition_13 (by decide) rfl ?_
  refine w_ic_ge (n := 19) 65 dX8_readCondition_16 (by decide) rfl (fun _ => ?_) (fun h => absurd (by decide) h)
  refine w_iconst (n := 66) (nI 1) dX8_readCondition_65 (by decide) rfl ?_
  refine w_retZ1 dX8_readCondition_66 rfl ?_
  exact hx

set_option maxRecDepth 20000 in
theorem c_readConditionQ {d D : Nat} {M : dk_Mem} {Q : Option Value → dk_Mem → Prop} {β : Nat} (hβ : dk_bo β) {bt : Nat → Nat} {n N o C i h : Nat} {el : Nat → py_R} (hinc : py_inc el) (hEl : c_CP β bt n N mX8_readAllOf el h [.int (nI o)] (d + D + 3)) {R : py_R} (hg : R.1 = true → ∀ M2 C1, dk_fr (cPf β C) M M2 → cPS β bt n N R.2.1 C1 M2 → C1 + i ≤ C + R.2.1 → sgC (M2.1 (β + 4)) C C1 (h + 1) R.2.2 → Q (some (.int 1)) M2) (hb : R.1 = false → ∀ M2, dk_fr (cPf β C) M M2 → M2.1 β 9 = nI R.2.1 → R.2.1 ≤ N → Q (some (.int 0)) M2) : ∀ (f k j C1 : Nat) (s : py_Sm) (M1 : dk_Mem), k + f = 200 → dk_fr (cPf β C) M M1 → cPS β bt n N j C1 M1 → C1 + i ≤ C + j → sgC (M1.1 (β + 4)) C C1 (h + 1) s → R = py_ch (tk_k bt n) el 15 or f j s → dk_W (d + D + 4) mX8_readCondition 12 [some (.ref β), some (.int (nI o)), some (.int (nI k))] [] M1 Q := by
  intro f
  induction f with
  | zero =>
    intro k j C1 s M1 hk hf hS hr hs hR
    have e2_h : k = 200 := by omega
    subst e2_h
    rw [py_ch] at hR
    subst hR
    exact c_readConditionZ (hg rfl M1 C1 hf hS hr hs)
  | succ f ih =>
    intro k j C1 s M1 hk hf hS hr hs hR
    rw [py_ch] at hR
    have tl := tk_tl bt n j
    have te := (tk_te bt n j).2.2.2.2.2.1
    have gl := hs.1
    refine w_il2 (n := 13) dX8_readCondition_12 rfl ?_
    refine w_sipush (n := 16) (nI 200) dX8_readCondition_13 (by decide) rfl ?_
    refine w_ic_ge (n := 19) 65 dX8_readCondition_16 (by decide) rfl (fun z16_h => ?_) (fun z16_h => ?_)
    · skip
      refine w_iconst (n := 66) (nI 1) dX8_readCondition_65 (by decide) rfl ?_
      refine w_retZ1 dX8_readCondition_66 rfl ?_
      first | (exfalso; rw [q_le (by decide) (by omega)] at z16_h; omega) | (have k1_h : ¬ tk_k bt n j = 15 := (fun z => z30_h (by rw [te.mpr z])); rw [if_neg k1_h] at hR; subst hR; exact hg rfl M1 C1 hf hS hr hs)
    · skip
      refine w_al0 (n := 20) dX8_readCondition_19 rfl ?_
      refine g_R (n := 23) f_X8_34_8 (bo_is hβ) (bo_rf2 hβ).2.1 dX8_readCondition_20 rfl ?_
      refine w_al0 (n := 24) dX8_readCondition_23 rfl ?_
      refine g_I (n := 27) f_X8_40_8 (bo_is hβ) dX8_readCondition_24 rfl ?_
      refine i_iald (n := 28) (bo_ar2 hβ).2.1 (j := j) hS.2.1 (by have := hS.2.2.2.2; have := hS.1.1; omega) (by decide) (hS.1.2.2 (j) hS.2.2.2.2).1 dX8_readCondition_27 rfl ?_
      refine w_bipush (n := 30) (nI 10) dX8_readCondition_28 (by decide) rfl ?_
      refine w_ic_ne (n := 33) 65 dX8_readCondition_30 (by decide) rfl (fun z30_h => ?_) (fun z30_h => ?_)
      · skip
        refine w_iconst (n := 66) (nI 1) dX8_readCondition_65 (by decide) rfl ?_
        refine w_retZ1 dX8_readCondition_66 rfl ?_
        first | (exfalso; rw [q_le (by decide) (by omega)] at z16_h; omega) | (have k1_h : ¬ tk_k bt n j = 15 := (fun z => z30_h (by rw [te.mpr z])); rw [if_neg k1_h] at hR; subst hR; exact hg rfl M1 C1 hf hS hr hs)
      · skip
        rw [nI_eq (by omega) (by decide)] at z30_h
        have k1_h := te.mp z30_h
        rw [if_pos k1_h] at hR
        refine w_al0 (n := 34) dX8_readCondition_33 rfl ?_
        refine w_dup (n := 35) rfl dX8_readCondition_34 rfl ?_
        refine g_I (n := 38) f_X8_40_8 (bo_is hβ) dX8_readCondition_35 rfl ?_
        rw [hS.2.1]
        refine w_iconst (n := 39) (nI 1) dX8_readCondition_38 (by decide) rfl ?_
        refine w_iadd (n := 40) dX8_readCondition_39 rfl ?_
        rw [nI_add]
        have hS1 := hS.nx (by omega)
        have f1_h : dk_fr (cPf β C) M (dk_put M1 β 9 (nI (j + 1))) := cPf_9 hf
        refine p_I (n := 43) f_X8_40_8 (bo_is hβ) dX8_readCondition_40 rfl ?_
        refine w_al0 (n := 44) dX8_readCondition_43 rfl ?_
        refine w_il1 (n := 45) dX8_readCondition_44 rfl ?_
        refine w_cV1 (n := 48) (bo_is hβ) cl_8 s0_X8_readAllOf k_X8_103 (Nat.le_of_ble_eq_true rfl) dX8_readCondition_45 rfl (hEl (j + 1) C1 _ _ hS1 (fun g0_h M3 C2 g1_h g2_h g3_h g4_h => ?_) (fun g0_h M3 g1_h g2_h g3_h => ?_))
        · skip
          rw [if_pos g0_h] at hR
          have inc := hinc _ g0_h
          have gl2_h := g4_h.1
          have h8_h := g2_h.2.2.2.2
          have h9_h := g2_h.1.1
          have h7_h := hS.2.2.2.1
          refine w_if_ne (n := 51) 53 dX8_readCondition_48 (by decide) rfl (fun _ => ?_) (fun h => absurd h (by decide))
          refine w_al0 (n := 54) dX8_readCondition_53 rfl ?_
          refine w_bipush (n := 56) (-3) dX8_readCondition_54 (by decide) rfl ?_
          refine w_cV1 (n := 59) (bo_is hβ) cl_8 s0_X8_emit k_X8_106 (Nat.le_of_ble_eq_true rfl) dX8_readCondition_56 rfl (c8_emit hβ g2_h.2.2.1 (by omega) ?_)
          refine w_inc2 (n := 62) (nI 1) dX8_readCondition_59 (by decide) rfl rfl (by decide) ?_
          refine w_goto 12 dX8_readCondition_62 (by decide) ?_
          rw [nI_add]
          refine ih (k + 1) _ (C2 + 1) _ _ (by omega) (cEm_f (f1_h.tr (cPf_up g1_h (Nat.le_of_lt gl))) (by omega)) (g2_h.em (by omega)) (by omega) ?_ hR
          refine sgC.oo (hs.ext (fun x a b => ?_)) (g4_h.ext (fun x a b => cEm_4 (by omega))) cEm_s
          rw [cEm_4 (by omega), g1_h.2 (β + 4) x (by unfold cPf; omega), dk_put_k (by omega)]
        · skip
          rw [if_neg (by rw [g0_h]; decide)] at hR
          subst hR
          refine w_if_ne (n := 51) 53 dX8_readCondition_48 (by decide) rfl (fun h => absurd h (by decide)) (fun _ => ?_)
          refine w_iconst (n := 52) (nI 0) dX8_readCondition_51 (by decide) rfl ?_
          refine w_retZ0 dX8_readCondition_52 rfl ?_
          exact hb rfl M3 (f1_h.tr (cPf_up g1_h (Nat.le_of_lt gl))) g2_h g3_h

set_option maxRecDepth 20000 in
theorem c_readConditionS {d D : Nat} {β : Nat} (hβ : dk_bo β) {bt : Nat → Nat} {n N o h : Nat} {el : Nat → py_R} (hinc : py_inc el) (hEl : c_CP β bt n N mX8_readAllOf el h [.int (nI o)] (d + D + 3)) : c_CP β bt n N mX8_readCondition (py_sq (tk_k bt n) el 15 or) (h + 1) [.int (nI o)] (d + D + 4) := by
  intro i C M Q hS hg hb
  unfold py_sq at hg hb
  refine dk_enter [some (.ref β), some (.int (nI o)), none] (by decide) (fun _ => rfl) (fun _ => Nat.le_of_ble_eq_true rfl) ?_
  refine w_al0 (n := 1) dX8_readCondition_0 rfl ?_
  refine w_il1 (n := 2) dX8_readCondition_1 rfl ?_
  refine w_cV1 (n := 5) (bo_is hβ) cl_8 s0_X8_readAllOf k_X8_103 (Nat.le_of_ble_eq_true rfl) dX8_readCondition_2 rfl (hEl i C M _ hS (fun g0_h M3 C2 g1_h g2_h g3_h g4_h => ?_) (fun g0_h M3 g1_h g2_h g3_h => ?_))
  · skip
    rw [if_pos g0_h] at hg hb
    refine w_if_ne (n := 8) 10 dX8_readCondition_5 (by decide) rfl (fun _ => ?_) (fun h => absurd h (by decide))
    refine w_iconst (n := 11) (nI 0) dX8_readCondition_10 (by decide) rfl ?_
    refine w_is2 (n := 12) dX8_readCondition_11 rfl rfl (by decide) ?_
    exact c_readConditionQ hβ hinc hEl hg hb 200 0 (el i).2.1 C2 (el i).2.2 M3 (by omega) g1_h g2_h g3_h (g4_h.mono (by omega)) rfl
  · skip
    rw [if_neg (by rw [g0_h]; decide)] at hb
    refine w_if_ne (n := 8) 10 dX8_readCondition_5 (by decide) rfl (fun h => absurd h (by decide)) (fun _ => ?_)
    refine w_iconst (n := 9) (nI 0) dX8_readCondition_8 (by decide) rfl ?_
    refine w_retZ0 dX8_readCondition_9 rfl ?_
    exact hb rfl M3 g1_h g2_h g3_h

theorem c_cond {β : Nat} (hβ : dk_bo β) {bt : Nat → Nat} {n N : Nat} : ∀ e o d, o + e = 3 → c_CP β bt n N mX8_readCondition (py_cnd (tk_k bt n) (tk_v bt n) (py_sub (tk_k bt n) (tk_v bt n) e)) (2 * e + 3) [.int (nI o)] (d + 3 * e + 4)
  | 0, o, d, h => by
    have h1_h := c_oneS (d := d) (D := 0) hβ (bt := bt) (n := n) (N := N) h (fun e1_h z => by omega)
    have i1_h : py_inc (py_one (tk_k bt n) (tk_v bt n) (py_sub (tk_k bt n) (tk_v bt n) 0)) := py_one_inc (py_sub_inc 0)
    exact c_readConditionS (D := 0) hβ (py_sq_inc i1_h) (c_readAllOfS (D := 0) hβ i1_h h1_h)
  | e + 1, o, d, h => by
    have ih := c_cond hβ (bt := bt) (n := n) (N := N) e (o + 1) d (by omega)
    have h1_h := c_oneS (d := d) (D := 3 * e + 3) hβ (bt := bt) (n := n) (N := N) (e := e + 1) h (fun e1_h z => by
      have ee : e1_h = e := by omega
      subst ee
      rw [show d + (3 * e1_h + 3) + 1 = d + 3 * e1_h + 4 by omega]
      exact ih)
    have i1_h : py_inc (py_one (tk_k bt n) (tk_v bt n) (py_sub (tk_k bt n) (tk_v bt n) (e + 1))) := py_one_inc (py_sub_inc (e + 1))
    have h2_h := c_readConditionS (D := 3 * e + 3) hβ (py_sq_inc i1_h) (c_readAllOfS (D := 3 * e + 3) hβ i1_h h1_h)
    rw [show d + (3 * e + 3) + 4 = d + 3 * (e + 1) + 4 by omega, show 2 * (e + 1) + 1 + 1 + 1 = 2 * (e + 1) + 3 by omega] at h2_h
    exact h2_h
