/-! ===== lone and liar in the component ===== -/
def en1_h (x : Nat) : Int32 := match x with
  | 0 => -1
  | x + 1 => nI x
theorem q_emx : ∀ a, a < 17 → ∀ b, b < 16 → (if en1_h a < nI b then nI b else en1_h a) = en1_h (max a (b + 1)) := by decide +kernel
theorem q_elt : ∀ a, a < 17 → ∀ y, y < 17 → (en1_h a < nI y ↔ a ≤ y) := by decide +kernel
def ln_y (σ : Nat → Nat) : Nat → Nat
  | 0 => 0
  | r + 1 => max (ln_y σ r) (σ (65 + 4 * r) + 1)
theorem ln_y_le {σ : Nat → Nat} : ∀ n, (∀ r, r < n → σ (65 + 4 * r) < 16) → ln_y σ n ≤ 16 ∧ ∀ r, r < n → σ (65 + 4 * r) < ln_y σ n
  | 0, _ => ⟨Nat.zero_le _, fun r h => by omega⟩
  | n + 1, h => by
    have ih := ln_y_le (σ := σ) n (fun r hr => h r (by omega))
    have h1_h := h n (by omega)
    rw [ln_y]
    refine ⟨by omega, fun r hr => ?_⟩
    by_cases e : r = n
    · subst e; omega
    · have := ih.2 r (by omega); omega

set_option maxRecDepth 20000 in
theorem c7_lyL {d : Nat} {M : dk_Mem} {Q : Option Value → dk_Mem → Prop} {σ : Nat → Nat} (hr : cr σ M) (o : sg_in σ) (hq : Q (some (.int (en1_h (ln_y σ (σ 5))))) M) : ∀ (n r : Nat), r ≤ σ 5 → σ 5 - r < n → dk_W (d + 1) mX7_lastYear 4 [some (.ref 32), some (.int (en1_h (ln_y σ r))), some (.int (nI r))] [] M Q := by
  have o5_h := o.1.2.2.2.2.1
  have hyr : ∀ r, r < σ 5 → σ (65 + 4 * r) < 16 := fun r h => by have := (o.2.2.2 r (by omega)).1; omega
  intro n
  induction n with
  | zero => intro r _ h; omega
  | succ n ih =>
    intro r hr5_h hn
    have yl := (ln_y_le (σ := σ) r (fun i hi => hyr i (by omega))).1
    refine w_il2 (n := 5) dX7_lastYear_4 rfl ?_
    refine w_al0 (n := 6) dX7_lastYear_5 rfl ?_
    refine g_I (n := 9) f_X7_9_7 pl_32 dX7_lastYear_6 rfl ?_
    rw [hr.1]
    refine w_ic_ge (n := 12) 29 dX7_lastYear_9 (by decide) rfl (fun z9_h => ?_) (fun z9_h => ?_)
    · skip
      refine w_il1 (n := 30) dX7_lastYear_29 rfl ?_
      refine w_retI dX7_lastYear_30 rfl ?_
      rw [q_le (by omega) (by omega)] at z9_h
      rw [show r = σ 5 by omega]
      exact hq
    · skip
      have hr6_h : r < σ 5 := by rw [q_le (by omega) (by omega)] at z9_h; omega
      have y6_h := hyr r hr6_h
      refine w_il1 (n := 13) dX7_lastYear_12 rfl ?_
      refine w_al0 (n := 14) dX7_lastYear_13 rfl ?_
      refine g_R (n := 17) f_X7_15_7 pl_32 rf_32_1 dX7_lastYear_14 rfl ?_
      refine w_il2 (n := 18) dX7_lastYear_17 rfl ?_
      refine i_iald (n := 19) pl_33 (j := r) rfl (by omega) (by decide) (hr.2 r hr6_h).1 dX7_lastYear_18 rfl ?_
      refine w_mmax (n := 22) dk_m3_max_X7_97 (Nat.le_of_ble_eq_true rfl) dX7_lastYear_19 rfl ?_
      rw [q_emx _ (by omega) _ y6_h]
      refine w_is1 (n := 23) dX7_lastYear_22 rfl rfl (by decide) ?_
      refine w_inc2 (n := 26) (nI 1) dX7_lastYear_23 (by decide) rfl rfl (by decide) ?_
      refine w_goto 4 dX7_lastYear_26 (by decide) ?_
      rw [nI_add]
      exact ih (r + 1) (by omega) (by omega)

set_option maxRecDepth 20000 in
theorem c7_lastYear {d : Nat} {M : dk_Mem} {Q : Option Value → dk_Mem → Prop} {σ : Nat → Nat} (hr : cr σ M) (o : sg_in σ) (hq : Q (some (.int (en1_h (ln_y σ (σ 5))))) M) : dk_Call (d + 1) mX7_lastYear [.ref 32] M Q := by
  refine dk_enter [some (.ref 32), none, none] (by decide) (fun _ => rfl) (fun _ => Nat.le_of_ble_eq_true rfl) ?_
  refine w_iconst (n := 1) (-1) dX7_lastYear_0 (by decide) rfl ?_
  refine w_is1 (n := 2) dX7_lastYear_1 rfl rfl (by decide) ?_
  refine w_iconst (n := 3) (nI 0) dX7_lastYear_2 (by decide) rfl ?_
  refine w_is2 (n := 4) dX7_lastYear_3 rfl rfl (by decide) ?_
  exact c7_lyL hr o hq 7 0 (by omega) (by have := o.1.2.2.2.2.1; omega)

set_option maxRecDepth 20000 in
theorem c7_bbL {d : Nat} {M : dk_Mem} {Q : Option Value → dk_Mem → Prop} {σ : Nat → Nat} (hr : cr σ M) (o : sg_in σ) {y : Nat} {t : Nat × Nat} (hy : y ≤ 16) (ht1_h : t.1 ≤ 99) (ht2_h : t.2 ≤ 16) (hq : Q (some (.int (nI (ln_b σ y t (σ 5))))) M) : ∀ (n r : Nat) (x6_h : Option Value), r ≤ σ 5 → σ 5 - r < n → dk_W d mX7_brokenBehind 6 [some (.ref 32), some (.int (nI y)), some (.int (nI t.1)), some (.int (nI t.2)), some (.int (nI (ln_b σ y t r))), some (.int (nI r)), x6_h] [] M Q := by
  have o5_h := o.1.2.2.2.2.1
  intro n
  induction n with
  | zero => intro r x6_h _ h; omega
  | succ n ih =>
    intro r x6_h hr5_h hn
    have bl := ln_b_64 (σ := σ) (y := y) (t := t) r (by omega)
    refine w_il5 (n := 8) dX7_brokenBehind_6 rfl ?_
    refine w_al0 (n := 9) dX7_brokenBehind_8 rfl ?_
    refine g_I (n := 12) f_X7_9_7 pl_32 dX7_brokenBehind_9 rfl ?_
    rw [hr.1]
    refine w_ic_ge (n := 15) 85 dX7_brokenBehind_12 (by decide) rfl (fun z12_h => ?_) (fun z12_h => ?_)
    · skip
      refine w_il4 (n := 87) dX7_brokenBehind_85 rfl ?_
      refine w_retI dX7_brokenBehind_87 rfl ?_
      rw [q_le (by omega) (by omega)] at z12_h
      rw [show r = σ 5 by omega]
      exact hq
    · skip
      have hr6_h : r < σ 5 := by rw [q_le (by omega) (by omega)] at z12_h; omega
      have ro := o.2.2.2 r (by omega)
      have ca := hr.2 r hr6_h
      have yes : ln_db σ r y t = true → ln_b σ y t (r + 1) = ln_b σ y t r ||| 2 ^ r := fun h => if_pos h
      have no : ¬ ln_db σ r y t = true → ln_b σ y t (r + 1) = ln_b σ y t r := fun h => if_neg h
      rw [ln_db_e] at yes no
      refine w_al0 (n := 16) dX7_brokenBehind_15 rfl ?_
      refine g_R (n := 19) f_X7_15_7 pl_32 rf_32_1 dX7_brokenBehind_16 rfl ?_
      refine w_il5 (n := 21) dX7_brokenBehind_19 rfl ?_
      refine i_iald (n := 22) pl_33 (j := r) rfl (by omega) (by decide) ca.1 dX7_brokenBehind_21 rfl ?_
      refine w_il1 (n := 23) dX7_brokenBehind_22 rfl ?_
      refine w_ic_eq (n := 26) 29 dX7_brokenBehind_23 (by decide) rfl (fun z23_h => ?_) (fun z23_h => ?_)
      · skip
        refine w_al0 (n := 30) dX7_brokenBehind_29 rfl ?_
        refine g_R (n := 33) f_X7_19_7 pl_32 rf_32_2 dX7_brokenBehind_30 rfl ?_
        refine w_il5 (n := 35) dX7_brokenBehind_33 rfl ?_
        refine i_iald (n := 36) pl_34 (j := r) rfl (by omega) (by decide) ca.2.1 dX7_brokenBehind_35 rfl ?_
        refine w_if_ne (n := 39) 43 dX7_brokenBehind_36 (by decide) rfl (fun z36_h => ?_) (fun z36_h => ?_)
        · skip
          have ex : ln_x σ r t = t.2 := if_neg (fun z => z36_h ((q_nz (by omega)).mpr z))
          refine w_il3 (n := 44) dX7_brokenBehind_43 rfl ?_
          refine w_is6 (n := 46) dX7_brokenBehind_44 rfl rfl (by decide) ?_
          refine w_il6 (n := 48) dX7_brokenBehind_46 rfl ?_
          refine w_al0 (n := 49) dX7_brokenBehind_48 rfl ?_
          refine g_R (n := 52) f_X7_22_7 pl_32 rf_32_3 dX7_brokenBehind_49 rfl ?_
          refine w_il5 (n := 54) dX7_brokenBehind_52 rfl ?_
          refine i_iald (n := 55) pl_35 (j := r) rfl (by omega) (by decide) ca.2.2.1 dX7_brokenBehind_54 rfl ?_
          refine w_ic_lt (n := 58) 70 dX7_brokenBehind_55 (by decide) rfl (fun z55_h => ?_) (fun z55_h => ?_)
          · skip
            refine w_il4 (n := 72) dX7_brokenBehind_70 rfl ?_
            refine w_iconst (n := 73) (nI 1) dX7_brokenBehind_72 (by decide) rfl ?_
            refine w_il5 (n := 75) dX7_brokenBehind_73 rfl ?_
            refine w_ishl (n := 76) dX7_brokenBehind_75 rfl ?_
            refine w_ior (n := 77) dX7_brokenBehind_76 rfl ?_
            refine w_is4 (n := 79) dX7_brokenBehind_77 rfl rfl (by decide) ?_
            refine w_inc5 (n := 82) (nI 1) dX7_brokenBehind_79 (by decide) rfl rfl (by decide) ?_
            refine w_goto 6 dX7_brokenBehind_82 (by decide) ?_
            rw [nI_add]
            have g := fun x6_h => ih (r + 1) x6_h (by omega) (by omega)
            unfold ln_bad at yes no
            first | (rw [nI_eq (by omega) (by omega)] at z23_h; rw [no (fun z => z23_h z.1)] at g; exact g _) | (rw [nI_eq (by omega) (by omega)] at z23_h; rw [nI_ltI (by omega) (by omega)] at z55_h; rw [q_orb _ bl r (by omega)]; rw [yes ⟨z23_h, by rw [ex]; omega⟩] at g; exact g _) | (rw [nI_eq (by omega) (by omega)] at z23_h; rw [nI_ltI (by omega) (by omega)] at z55_h; rw [q_le (by omega) (by omega)] at z67_h; rw [no (fun z => z.2 (by rw [ex]; omega))] at g; exact g _) | (rw [nI_eq (by omega) (by omega)] at z23_h; rw [nI_ltI (by omega) (by omega)] at z55_h; rw [q_le (by omega) (by omega)] at z67_h; rw [q_orb _ bl r (by omega)]; rw [yes ⟨z23_h, by rw [ex]; omega⟩] at g; exact g _)
          · skip
            refine w_il6 (n := 60) dX7_brokenBehind_58 rfl ?_
            refine w_al0 (n := 61) dX7_brokenBehind_60 rfl ?_
            refine g_R (n := 64) f_X7_25_7 pl_32 rf_32_4 dX7_brokenBehind_61 rfl ?_
            refine w_il5 (n := 66) dX7_brokenBehind_64 rfl ?_
            refine i_iald (n := 67) pl_36 (j := r) rfl (by omega) (by decide) ca.2.2.2 dX7_brokenBehind_66 rfl ?_
            refine w_ic_le (n := 70) 79 dX7_brokenBehind_67 (by decide) rfl (fun z67_h => ?_) (fun z67_h => ?_)
            · skip
              refine w_inc5 (n := 82) (nI 1) dX7_brokenBehind_79 (by decide) rfl rfl (by decide) ?_
              refine w_goto 6 dX7_brokenBehind_82 (by decide) ?_
              rw [nI_add]
              have g := fun x6_h => ih (r + 1) x6_h (by omega) (by omega)
              unfold ln_bad at yes no
              first | (rw [nI_eq (by omega) (by omega)] at z23_h; rw [no (fun z => z23_h z.1)] at g; exact g _) | (rw [nI_eq (by omega) (by omega)] at z23_h; rw [nI_ltI (by omega) (by omega)] at z55_h; rw [q_orb _ bl r (by omega)]; rw [yes ⟨z23_h, by rw [ex]; omega⟩] at g; exact g _) | (rw [nI_eq (by omega) (by omega)] at z23_h; rw [nI_ltI (by omega) (by omega)] at z55_h; rw [q_le (by omega) (by omega)] at z67_h; rw [no (fun z => z.2 (by rw [ex]; omega))] at g; exact g _) | (rw [nI_eq (by omega) (by omega)] at z23_h; rw [nI_ltI (by omega) (by omega)] at z55_h; rw [q_le (by omega) (by omega)] at z67_h; rw [q_orb _ bl r (by omega)]; rw [yes ⟨z23_h, by rw [ex]; omega⟩] at g; exact g _)
            · skip
              refine w_il4 (n := 72) dX7_brokenBehind_70 rfl ?_
              refine w_iconst (n := 73) (nI 1) dX7_brokenBehind_72 (by decide) rfl ?_
              refine w_il5 (n := 75) dX7_brokenBehind_73 rfl ?_
              refine w_ishl (n := 76) dX7_brokenBehind_75 rfl ?_
              refine w_ior (n := 77) dX7_brokenBehind_76 rfl ?_
              refine w_is4 (n := 79) dX7_brokenBehind_77 rfl rfl (by decide) ?_
              refine w_inc5 (n := 82) (nI 1) dX7_brokenBehind_79 (by decide) rfl rfl (by decide) ?_
              refine w_goto 6 dX7_brokenBehind_82 (by decide) ?_
              rw [nI_add]
              have g := fun x6_h => ih (r + 1) x6_h (by omega) (by omega)
              unfold ln_bad at yes no
              first | (rw [nI_eq (by omega) (by omega)] at z23_h; rw [no (fun z => z23_h z.1)] at g; exact g _) | (rw [nI_eq (by omega) (by omega)] at z23_h; rw [nI_ltI (by omega) (by omega)] at z55_h; rw [q_orb _ bl r (by omega)]; rw [yes ⟨z23_h, by rw [ex]; omega⟩] at g; exact g _) | (rw [nI_eq (by omega) (by omega)] at z23_h; rw [nI_ltI (by omega) (by omega)] at z55_h; rw [q_le (by omega) (by omega)] at z67_h; rw [no (fun z => z.2 (by rw [ex]; omega))] at g; exact g _) | (rw [nI_eq (by omega) (by omega)] at z23_h; rw [nI_ltI (by omega) (by omega)] at z55_h; rw [q_le (by omega) (by omega)] at z67_h; rw [q_orb _ bl r (by omega)]; rw [yes ⟨z23_h, by rw [ex]; omega⟩] at g; exact g _)
        · skip
          have ex : ln_x σ r t = t.1 := if_pos ((q_nz (by omega)).mp z36_h)
          refine w_il2 (n := 40) dX7_brokenBehind_39 rfl ?_
          refine w_goto 44 dX7_brokenBehind_40 (by decide) ?_
          refine w_is6 (n := 46) dX7_brokenBehind_44 rfl rfl (by decide) ?_
          refine w_il6 (n := 48) dX7_brokenBehind_46 rfl ?_
          refine w_al0 (n := 49) dX7_brokenBehind_48 rfl ?_
          refine g_R (n := 52) f_X7_22_7 pl_32 rf_32_3 dX7_brokenBehind_49 rfl ?_
          refine w_il5 (n := 54) dX7_brokenBehind_52 rfl ?_
          refine i_iald (n := 55) pl_35 (j := r) rfl (by omega) (by decide) ca.2.2.1 dX7_brokenBehind_54 rfl ?_
          refine w_ic_lt (n := 58) 70 dX7_brokenBehind_55 (by decide) rfl (fun z55_h => ?_) (fun z55_h => ?_)
          · skip
            refine w_il4 (n := 72) dX7_brokenBehind_70 rfl ?_
            refine w_iconst (n := 73) (nI 1) dX7_brokenBehind_72 (by decide) rfl ?_
            refine w_il5 (n := 75) dX7_brokenBehind_73 rfl ?_
            refine w_ishl (n := 76) dX7_brokenBehind_75 rfl ?_
            refine w_ior (n := 77) dX7_brokenBehind_76 rfl ?_
            refine w_is4 (n := 79) dX7_brokenBehind_77 rfl rfl (by decide) ?_
            refine w_inc5 (n := 82) (nI 1) dX7_brokenBehind_79 (by decide) rfl rfl (by decide) ?_
            refine w_goto 6 dX7_brokenBehind_82 (by decide) ?_
            rw [nI_add]
            have g := fun x6_h => ih (r + 1) x6_h (by omega) (by omega)
            unfold ln_bad at yes no
            first | (rw [nI_eq (by omega) (by omega)] at z23_h; rw [no (fun z => z23_h z.1)] at g; exact g _) | (rw [nI_eq (by omega) (by omega)] at z23_h; rw [nI_ltI (by omega) (by omega)] at z55_h; rw [q_orb _ bl r (by omega)]; rw [yes ⟨z23_h, by rw [ex]; omega⟩] at g; exact g _) | (rw [nI_eq (by omega) (by omega)] at z23_h; rw [nI_ltI (by omega) (by omega)] at z55_h; rw [q_le (by omega) (by omega)] at z67_h; rw [no (fun z => z.2 (by rw [ex]; omega))] at g; exact g _) | (rw [nI_eq (by omega) (by omega)] at z23_h; rw [nI_ltI (by omega) (by omega)] at z55_h; rw [q_le (by omega) (by omega)] at z67_h; rw [q_orb _ bl r (by omega)]; rw [yes ⟨z23_h, by rw [ex]; omega⟩] at g; exact g _)
          · skip
            refine w_il6 (n := 60) dX7_brokenBehind_58 rfl ?_
            refine w_al0 (n := 61) dX7_brokenBehind_60 rfl ?_
            refine g_R (n := 64) f_X7_25_7 pl_32 rf_32_4 dX7_brokenBehind_61 rfl ?_
            refine w_il5 (n := 66) dX7_brokenBehind_64 rfl ?_
            refine i_iald (n := 67) pl_36 (j := r) rfl (by omega) (by decide) ca.2.2.2 dX7_brokenBehind_66 rfl ?_
            refine w_ic_le (n := 70) 79 dX7_brokenBehind_67 (by decide) rfl (fun z67_h => ?_) (fun z67_h => ?_)
            · skip
              refine w_inc5 (n := 82) (nI 1) dX7_brokenBehind_79 (by decide) rfl rfl (by decide) ?_
              refine w_goto 6 dX7_brokenBehind_82 (by decide) ?_
              rw [nI_add]
              have g := fun x6_h => ih (r + 1) x6_h (by omega) (by omega)
              unfold ln_bad at yes no
              first | (rw [nI_eq (by omega) (by omega)] at z23_h; rw [no (fun z => z23_h z.1)] at g; exact g _) | (rw [nI_eq (by omega) (by omega)] at z23_h; rw [nI_ltI (by omega) (by omega)] at z55_h; rw [q_orb _ bl r (by omega)]; rw [yes ⟨z23_h, by rw [ex]; omega⟩] at g; exact g _) | (rw [nI_eq (by omega) (by omega)] at z23_h; rw [nI_ltI (by omega) (by omega)] at z55_h; rw [q_le (by omega) (by omega)] at z67_h; rw [no (fun z => z.2 (by rw [ex]; omega))] at g; exact g _) | (rw [nI_eq (by omega) (by omega)] at z23_h; rw [nI_ltI (by omega) (by omega)] at z55_h; rw [q_le (by omega) (by omega)] at z67_h; rw [q_orb _ bl r (by omega)]; rw [yes ⟨z23_h, by rw [ex]; omega⟩] at g; exact g _)
            · skip
              refine w_il4 (n := 72) dX7_brokenBehind_70 rfl ?_
              refine w_iconst (n := 73) (nI 1) dX7_brokenBehind_72 (by decide) rfl ?_
              refine w_il5 (n := 75) dX7_brokenBehind_73 rfl ?_
              refine w_ishl (n := 76) dX7_brokenBehind_75 rfl ?_
              refine w_ior (n := 77) dX7_brokenBehind_76 rfl ?_
              refine w_is4 (n := 79) dX7_brokenBehind_77 rfl rfl (by decide) ?_
              refine w_inc5 (n := 82) (nI 1) dX7_brokenBehind_79 (by decide) rfl rfl (by decide) ?_
              refine w_goto 6 dX7_brokenBehind_82 (by decide) ?_
              rw [nI_add]
              have g := fun x6_h => ih (r + 1) x6_h (by omega) (by omega)
              unfold ln_bad at yes no
              first | (rw [nI_eq (by omega) (by omega)] at z23_h; rw [no (fun z => z23_h z.1)] at g; exact g _) | (rw [nI_eq (by omega) (by omega)] at z23_h; rw [nI_ltI (by omega) (by omega)] at z55_h; rw [q_orb _ bl r (by omega)]; rw [yes ⟨z23_h, by rw [ex]; omega⟩] at g; exact g _) | (rw [nI_eq (by omega) (by omega)] at z23_h; rw [nI_ltI (by omega) (by omega)] at z55_h; rw [q_le (by omega) (by omega)] at z67_h; rw [no (fun z => z.2 (by rw [ex]; omega))] at g; exact g _) | (rw [nI_eq (by omega) (by omega)] at z23_h; rw [nI_ltI (by omega) (by omega)] at z55_h; rw [q_le (by omega) (by omega)] at z67_h; rw [q_orb _ bl r (by omega)]; rw [yes ⟨z23_h, by rw [ex]; omega⟩] at g; exact g _)
      · skip
        refine w_goto 79 dX7_brokenBehind_26 (by decide) ?_
        refine w_inc5 (n := 82) (nI 1) dX7_brokenBehind_79 (by decide) rfl rfl (by decide) ?_
        refine w_goto 6 dX7_brokenBehind_82 (by decide) ?_
        rw [nI_add]
        have g := fun x6_h => ih (r + 1) x6_h (by omega) (by omega)
        unfold ln_bad at yes no
        first | (rw [nI_eq (by omega) (by omega)] at z23_h; rw [no (fun z => z23_h z.1)] at g; exact g _) | (rw [nI_eq (by omega) (by omega)] at z23_h; rw [nI_ltI (by omega) (by omega)] at z55_h; rw [q_orb _ bl r (by omega)]; rw [yes ⟨z23_h, by rw [ex]; omega⟩] at g; exact g _) | (rw [nI_eq (by omega) (by omega)] at z23_h; rw [nI_ltI (by omega) (by omega)] at z55_h; rw [q_le (by omega) (by omega)] at z67_h; rw [no (fun z => z.2 (by rw [ex]; omega))] at g; exact g _) | (rw [nI_eq (by omega) (by omega)] at z23_h; rw [nI_ltI (by omega) (by omega)] at z55_h; rw [q_le (by omega) (by omega)] at z67_h; rw [q_orb _ bl r (by omega)]; rw [yes ⟨z23_h, by rw [ex]; omega⟩] at g; exact g _)

set_option maxRecDepth 20000 in
theorem c7_behind {d : Nat} {M : dk_Mem} {Q : Option Value → dk_Mem → Prop} {σ : Nat → Nat} (hr : cr σ M) (o : sg_in σ) {y : Nat} {t : Nat × Nat} (hy : y ≤ 16) (ht1_h : t.1 ≤ 99) (ht2_h : t.2 ≤ 16) (hq : Q (some (.int (nI (ln_b σ y t (σ 5))))) M) : dk_Call d mX7_brokenBehind [.ref 32, .int (nI y), .int (nI t.1), .int (nI t.2)] M Q := by
  refine dk_enter [some (.ref 32), some (.int (nI y)), some (.int (nI t.1)), some (.int (nI t.2)), none, none, none] (by decide) (fun _ => rfl) (fun _ => Nat.le_of_ble_eq_true rfl) ?_
  refine w_iconst (n := 1) (nI 0) dX7_brokenBehind_0 (by decide) rfl ?_
  refine w_is4 (n := 3) dX7_brokenBehind_1 rfl rfl (by decide) ?_
  refine w_iconst (n := 4) (nI 0) dX7_brokenBehind_3 (by decide) rfl ?_
  refine w_is5 (n := 6) dX7_brokenBehind_4 rfl rfl (by decide) ?_
  exact c7_bbL hr o hy ht1_h ht2_h hq 7 0 _ (by omega) (by have := o.1.2.2.2.2.1; omega)

set_option maxRecDepth 20000 in
theorem c7_byL {d : Nat} {M : dk_Mem} {Q : Option Value → dk_Mem → Prop} {σ : Nat → Nat} (hs : cs σ M) (hr : cr σ M) (o : sg_in σ) {k0_h g0_h l0_h : Nat} (hk0_h : k0_h ≤ 5) (hg0_h : g0_h ≤ 9) (hl0_h : l0_h ≤ 99) {e : Nat} (he : e ≤ 16) (hq : Q (some (.int (nI (ln_o σ (ln_t σ k0_h g0_h l0_h) e)))) M) : ∀ (n y : Nat) (x11_h : Option Value), y ≤ e → e - y < n → dk_W (d + 4) mX7_brokenBy 27 [some (.ref 32), some (.ref 14), some (.ref (2 + 2 * k0_h)), some (.int (nI g0_h)), some (.int (nI l0_h)), some (.int (nI (sg_br k0_h g0_h 0))), some (.int (nI (ln_t σ k0_h g0_h l0_h y).1)), some (.int (nI (ln_t σ k0_h g0_h l0_h y).2)), some (.int (nI (ln_o σ (ln_t σ k0_h g0_h l0_h) y))), some (.int (en1_h e)), some (.int (nI y)), x11_h] [] M Q := by
  have o5_h := o.1.2.2.2.2.1
  have bl := sg_br_le (k := k0_h) (g := g0_h) (n := 0) hg0_h (by omega)
  intro n
  induction n with
  | zero => intro y x11_h _ h; omega
  | succ n ih =>
    intro y x11_h hy hn
    have tl := ln_t_le (σ := σ) (k := k0_h) (g := g0_h) hl0_h y
    have sl := o.1.sy y
    have ll := sg_ln_le (k := k0_h) (w := sg_sy σ y / 4) (h := sg_sy σ y % 4) (y := y) (by omega) (by omega)
    have ol := ln_o_64 (σ := σ) (t := ln_t σ k0_h g0_h l0_h) o5_h y
    have b6_h := ln_b_64 (σ := σ) (y := y) (t := ln_t σ k0_h g0_h l0_h y) (σ 5) o5_h
    refine w_il10 (n := 29) dX7_brokenBy_27 rfl ?_
    refine w_il9 (n := 31) dX7_brokenBy_29 rfl ?_
    refine w_ic_gt (n := 34) 103 dX7_brokenBy_31 (by decide) rfl (fun z31_h => ?_) (fun z31_h => ?_)
    · skip
      refine w_il8 (n := 105) dX7_brokenBy_103 rfl ?_
      refine w_retI dX7_brokenBy_105 rfl ?_
      rw [q_elt _ (by omega) _ (by omega)] at z31_h
      rw [show y = e by omega]
      exact hq
    · skip
      have hy6_h : y < e := by rw [q_elt _ (by omega) _ (by omega)] at z31_h; omega
      refine w_il8 (n := 36) dX7_brokenBy_34 rfl ?_
      refine w_al0 (n := 37) dX7_brokenBy_36 rfl ?_
      refine w_il10 (n := 39) dX7_brokenBy_37 rfl ?_
      refine w_il6 (n := 41) dX7_brokenBy_39 rfl ?_
      refine w_il7 (n := 43) dX7_brokenBy_41 rfl ?_
      refine w_cV3 (n := 46) pl_32 cl_7 s0_X7_brokenBehind k_X7_79 (Nat.le_of_ble_eq_true rfl) dX7_brokenBy_43 rfl (c7_behind hr o (by omega) tl.1 (by omega) ?_)
      refine w_ior (n := 47) dX7_brokenBy_46 rfl ?_
      rw [(q_orr _ ol _ b6_h).1, show ln_o σ (ln_t σ k0_h g0_h l0_h) y ||| ln_b σ y (ln_t σ k0_h g0_h l0_h y) (σ 5) = ln_o σ (ln_t σ k0_h g0_h l0_h) (y + 1) from rfl]
      refine w_is8 (n := 49) dX7_brokenBy_47 rfl rfl (by decide) ?_
      refine w_al1 (n := 50) dX7_brokenBy_49 rfl ?_
      refine w_il10 (n := 52) dX7_brokenBy_50 rfl ?_
      refine w_cV1 (n := 55) pl_14 cl_10 s0_X10_wordOf k_X7_83 (Nat.le_of_ble_eq_true rfl) dX7_brokenBy_52 rfl (c10_wordOf hs o.1 (by omega) ?_)
      refine w_is11 (n := 57) dX7_brokenBy_55 rfl rfl (by decide) ?_
      refine w_il6 (n := 59) dX7_brokenBy_57 rfl ?_
      refine w_bipush (n := 61) (nI 6) dX7_brokenBy_59 (by decide) rfl ?_
      refine w_il11 (n := 63) dX7_brokenBy_61 rfl ?_
      refine w_imul (n := 64) dX7_brokenBy_63 rfl ?_
      refine w_iadd (n := 65) dX7_brokenBy_64 rfl ?_
      rw [pk_mul, nI_add]
      refine w_il5 (n := 67) dX7_brokenBy_65 rfl ?_
      refine w_ic_lt (n := 70) 73 dX7_brokenBy_67 (by decide) rfl (fun z67_h => ?_) (fun z67_h => ?_)
      · skip
        refine w_bipush (n := 75) (nI 99) dX7_brokenBy_73 (by decide) rfl ?_
        refine w_il6 (n := 77) dX7_brokenBy_75 rfl ?_
        refine w_al2 (n := 78) dX7_brokenBy_77 rfl ?_
        refine w_il11 (n := 80) dX7_brokenBy_78 rfl ?_
        refine w_al1 (n := 81) dX7_brokenBy_80 rfl ?_
        refine w_il10 (n := 83) dX7_brokenBy_81 rfl ?_
        refine w_cV1 (n := 86) pl_14 cl_10 s0_X10_hushOf k_X7_86 (Nat.le_of_ble_eq_true rfl) dX7_brokenBy_83 rfl (c10_hushOf hs o.1 (by omega) ?_)
        refine w_il10 (n := 88) dX7_brokenBy_86 rfl ?_
        refine w_lm_X7 (n := 91) rfl hk0_h (by omega) (by omega) (by omega) (Nat.le_of_ble_eq_true rfl) dX7_brokenBy_88 rfl ?_
        refine w_iadd (n := 92) dX7_brokenBy_91 rfl ?_
        rw [nI_add (ln_t σ k0_h g0_h l0_h y).1]
        refine w_mmin (n := 95) dk_m3_min_X7_92 (Nat.le_of_ble_eq_true rfl) dX7_brokenBy_92 rfl ?_
        rw [q_mi (by omega) (by omega)]
        refine w_is6 (n := 97) dX7_brokenBy_95 rfl rfl (by decide) ?_
        refine w_inc10 (n := 100) (nI 1) dX7_brokenBy_97 (by decide) rfl rfl (by decide) ?_
        refine w_goto 27 dX7_brokenBy_100 (by decide) ?_
        rw [nI_ltI (by omega) (by omega)] at z67_h
        have hx := fun x11_h => ih (y + 1) x11_h (by omega) (by omega)
        have e2_h : (ln_t σ k0_h g0_h l0_h (y + 1)).2 = (ln_t σ k0_h g0_h l0_h y).2 + if sg_br k0_h g0_h 0 ≤ (ln_t σ k0_h g0_h l0_h y).1 + 6 * (sg_sy σ y / 4) then 1 else 0 := rfl
        rw [e2_h] at hx
        first | (rw [if_pos (by omega)] at hx; rw [nI_add, nI_add]; exact hx _) | (rw [if_neg (by omega)] at hx; rw [nI_add]; exact hx _)
      · skip
        refine w_inc7 (n := 73) (nI 1) dX7_brokenBy_70 (by decide) rfl rfl (by decide) ?_
        refine w_bipush (n := 75) (nI 99) dX7_brokenBy_73 (by decide) rfl ?_
        refine w_il6 (n := 77) dX7_brokenBy_75 rfl ?_
        refine w_al2 (n := 78) dX7_brokenBy_77 rfl ?_
        refine w_il11 (n := 80) dX7_brokenBy_78 rfl ?_
        refine w_al1 (n := 81) dX7_brokenBy_80 rfl ?_
        refine w_il10 (n := 83) dX7_brokenBy_81 rfl ?_
        refine w_cV1 (n := 86) pl_14 cl_10 s0_X10_hushOf k_X7_86 (Nat.le_of_ble_eq_true rfl) dX7_brokenBy_83 rfl (c10_hushOf hs o.1 (by omega) ?_)
        refine w_il10 (n := 88) dX7_brokenBy_86 rfl ?_
        refine w_lm_X7 (n := 91) rfl hk0_h (by omega) (by omega) (by omega) (Nat.le_of_ble_eq_true rfl) dX7_brokenBy_88 rfl ?_
        refine w_iadd (n := 92) dX7_brokenBy_91 rfl ?_
        rw [nI_add (ln_t σ k0_h g0_h l0_h y).1]
        refine w_mmin (n := 95) dk_m3_min_X7_92 (Nat.le_of_ble_eq_true rfl) dX7_brokenBy_92 rfl ?_
        rw [q_mi (by omega) (by omega)]
        refine w_is6 (n := 97) dX7_brokenBy_95 rfl rfl (by decide) ?_
        refine w_inc10 (n := 100) (nI 1) dX7_brokenBy_97 (by decide) rfl rfl (by decide) ?_
        refine w_goto 27 dX7_brokenBy_100 (by decide) ?_
        rw [nI_ltI (by omega) (by omega)] at z67_h
        have hx := fun x11_h => ih (y + 1) x11_h (by omega) (by omega)
        have e2_h : (ln_t σ k0_h g0_h l0_h (y + 1)).2 = (ln_t σ k0_h g0_h l0_h y).2 + if sg_br k0_h g0_h 0 ≤ (ln_t σ k0_h g0_h l0_h y).1 + 6 * (sg_sy σ y / 4) then 1 else 0 := rfl
        rw [e2_h] at hx
        first | (rw [if_pos (by omega)] at hx; rw [nI_add, nI_add]; exact hx _) | (rw [if_neg (by omega)] at hx; rw [nI_add]; exact hx _)

set_option maxRecDepth 20000 in
theorem c7_brokenBy {d : Nat} {M : dk_Mem} {Q : Option Value → dk_Mem → Prop} {σ : Nat → Nat} (hs : cs σ M) (hr : cr σ M) (o : sg_in σ) {k0_h g0_h l0_h : Nat} (hk0_h : k0_h ≤ 5) (hg0_h : g0_h ≤ 9) (hl0_h : l0_h ≤ 99) (hq : Q (some (.int (nI (ln_o σ (ln_t σ k0_h g0_h l0_h) 16)))) M) : dk_Call (d + 4) mX7_brokenBy [.ref 32, .ref 14, .ref (2 + 2 * k0_h), .int (nI g0_h), .int (nI l0_h)] M Q := by
  have o5_h := o.1.2.2.2.2.1
  have hyr : ∀ r, r < σ 5 → σ (65 + 4 * r) < 16 := fun r h => by have := (o.2.2.2 r (by omega)).1; omega
  have yl := ln_y_le (σ := σ) (σ 5) hyr
  refine dk_enter [some (.ref 32), some (.ref 14), some (.ref (2 + 2 * k0_h)), some (.int (nI g0_h)), some (.int (nI l0_h)), none, none, none, none, none, none, none] (by decide) (fun _ => rfl) (fun _ => Nat.le_of_ble_eq_true rfl) ?_
  refine w_al2 (n := 1) dX7_brokenBy_0 rfl ?_
  refine w_il3 (n := 2) dX7_brokenBy_1 rfl ?_
  refine w_iconst (n := 3) (nI 0) dX7_brokenBy_2 (by decide) rfl ?_
  refine w_br_X7 (n := 6) rfl hk0_h hg0_h (Nat.le_of_ble_eq_true rfl) dX7_brokenBy_3 rfl ?_
  refine w_is5 (n := 8) dX7_brokenBy_6 rfl rfl (by decide) ?_
  refine w_il4 (n := 10) dX7_brokenBy_8 rfl ?_
  refine w_is6 (n := 12) dX7_brokenBy_10 rfl rfl (by decide) ?_
  refine w_iconst (n := 13) (nI 0) dX7_brokenBy_12 (by decide) rfl ?_
  refine w_is7 (n := 15) dX7_brokenBy_13 rfl rfl (by decide) ?_
  refine w_iconst (n := 16) (nI 0) dX7_brokenBy_15 (by decide) rfl ?_
  refine w_is8 (n := 18) dX7_brokenBy_16 rfl rfl (by decide) ?_
  refine w_al0 (n := 19) dX7_brokenBy_18 rfl ?_
  refine w_cV0 (n := 22) pl_32 cl_7 s0_X7_lastYear k_X7_75 (Nat.le_of_ble_eq_true rfl) dX7_brokenBy_19 rfl (c7_lastYear hr o ?_)
  refine w_is9 (n := 24) dX7_brokenBy_22 rfl rfl (by decide) ?_
  refine w_iconst (n := 25) (nI 0) dX7_brokenBy_24 (by decide) rfl ?_
  refine w_is10 (n := 27) dX7_brokenBy_25 rfl rfl (by decide) ?_
  rw [← ln_o_last (n := ln_y σ (σ 5)) (fun r h => ⟨yl.2 r h, hyr r h⟩)] at hq
  exact c7_byL hs hr o hk0_h hg0_h hl0_h yl.1 hq 17 0 _ (by omega) (by omega)

def cLn (q k : Nat) : Prop := q = 32 ∧ 5 ≤ k
/-- the search, n lone pieces looked at -/
def cSe (σ : Nat → Nat) (n : Nat) (M : dk_Mem) : Prop := M.1 32 5 = nI (ln_c (ln_z σ) n) ∧ M.1 32 9 = nI (ln_su σ n) ∧ ∀ v, ln_f (ln_z σ) n = some v → M.1 32 6 = nI (1 + v / 100) ∧ M.1 32 7 = nI (v / 10 % 10) ∧ M.1 32 8 = nI (9 * (v % 10))
theorem cs.Ln {σ : Nat → Nat} {M M' : dk_Mem} (h : cs σ M) (hf : dk_fr cLn M M') : cs σ M' := h.fr hf (fun q k a b z => by unfold cLn at z; omega)
theorem cr.Ln {σ : Nat → Nat} {M M' : dk_Mem} (h : cr σ M) (hf : dk_fr cLn M M') : cr σ M' := h.fr hf (fun q k a b c z => by unfold cLn at z; omega)
theorem cSe_y {σ : Nat → Nat} {n : Nat} (h : ln_z σ n = true) : ln_c (ln_z σ) (n + 1) = ln_c (ln_z σ) n + 1 := by rw [ln_c, if_pos h]
theorem cSe_n {σ : Nat → Nat} {n : Nat} (h : ¬ ln_z σ n = true) : ln_c (ln_z σ) (n + 1) = ln_c (ln_z σ) n := by rw [ln_c, if_neg h]; rfl
theorem cSe_fn {σ : Nat → Nat} {n : Nat} (h : ¬ ln_z σ n = true) : ln_f (ln_z σ) (n + 1) = ln_f (ln_z σ) n := by
  rw [ln_f]
  cases e : ln_f (ln_z σ) n with
  | none => dsimp only; rw [if_neg h]
  | some v => rfl
theorem cSe_f0 {σ : Nat → Nat} {n : Nat} (h : ln_z σ n = true) (h0_h : ln_f (ln_z σ) n = none) : ln_f (ln_z σ) (n + 1) = some n := by
  rw [ln_f, h0_h]; dsimp only; rw [if_pos h]
theorem cSe_f1 {σ : Nat → Nat} {n : Nat} (h0_h : ¬ ln_f (ln_z σ) n = none) : ln_f (ln_z σ) (n + 1) = ln_f (ln_z σ) n := by
  rw [ln_f]
  cases e : ln_f (ln_z σ) n with
  | none => exact absurd e h0_h
  | some v => rfl
theorem ln_su_y {σ : Nat → Nat} {n : Nat} (h : sg_bits (ln_v σ n) = 1) : ln_su σ (n + 1) = ln_su σ n ||| ln_v σ n := by rw [ln_su, if_pos h]
theorem ln_su_n {σ : Nat → Nat} {n : Nat} (h : ¬ sg_bits (ln_v σ n) = 1) : ln_su σ (n + 1) = ln_su σ n := by rw [ln_su, if_neg h]

set_option maxRecDepth 20000 in
theorem c7_note {d : Nat} {M : dk_Mem} {Q : Option Value → dk_Mem → Prop} {σ : Nat → Nat} (hs : cs σ M) (hr : cr σ M) (o : sg_in σ) {v k0_h g0_h l0_h : Nat} (hv : v < 500) (ek : 1 + v / 100 = k0_h) (eg : v / 10 % 10 = g0_h) (el : 9 * (v % 10) = l0_h) (hS : cSe σ v M) (hq : ∀ M2, dk_fr cLn M M2 → cSe σ (v + 1) M2 → Q none M2) : dk_Call (d + 5) mX7_noteLone [.ref 32, .ref 14, .int (nI k0_h), .int (nI g0_h), .int (nI l0_h)] M Q := by
  have o5_h := o.1.2.2.2.2.1
  have l64_h : ln_v σ v < 64 := ln_o_64 o5_h 16
  have s64_h := ln_su_64 o5_h v
  have cl := ln_c_le (f := ln_z σ) v
  have ev : ln_o σ (ln_t σ k0_h g0_h l0_h) 16 = ln_v σ v := by rw [← ek, ← eg, ← el]; rfl
  have qb := q_bits _ l64_h
  have cf := ln_cf (f := ln_z σ) v
  obtain ⟨s1_h, s2_h, s3_h⟩ := hS
  have ez : ln_z σ v = true ↔ ln_v σ v = 0 := by unfold ln_z; exact decide_eq_true_iff
  have bz : ln_v σ v = 0 → ¬ nI (sg_bits (ln_v σ v)) = nI 1 := fun z => by rw [z]; decide
  refine dk_enter [some (.ref 32), some (.ref 14), some (.int (nI k0_h)), some (.int (nI g0_h)), some (.int (nI l0_h)), none] (by decide) (fun _ => rfl) (fun _ => Nat.le_of_ble_eq_true rfl) ?_
  refine w_al0 (n := 1) dX7_noteLone_0 rfl ?_
  refine w_al1 (n := 2) dX7_noteLone_1 rfl ?_
  refine w_al1 (n := 3) dX7_noteLone_2 rfl ?_
  refine g_R (n := 6) f_X7_53_10 pl_14 rf_14_0 dX7_noteLone_3 rfl ?_
  refine w_il2 (n := 7) dX7_noteLone_6 rfl ?_
  refine i_aaldP (n := 8) pl_1 (j := k0_h) rfl (by omega) (by decide) (rf_kinds _ (by omega)) dX7_noteLone_7 rfl ?_
  refine w_il3 (n := 9) dX7_noteLone_8 rfl ?_
  refine w_il4 (n := 11) dX7_noteLone_9 rfl ?_
  refine w_cV4 (n := 14) pl_32 cl_7 s0_X7_brokenBy k_X7_59 (Nat.le_of_ble_eq_true rfl) dX7_noteLone_11 rfl (c7_brokenBy hs hr o (by omega) (by omega) (by omega) ?_)
  rw [ev]
  refine w_is5 (n := 16) dX7_noteLone_14 rfl rfl (by decide) ?_
  refine w_il5 (n := 18) dX7_noteLone_16 rfl ?_
  refine w_cS1 (n := 21) s0_J6_bitCount_0f7a4 k_X7_63 (Nat.le_of_ble_eq_true rfl) dX7_noteLone_18 rfl (j_bits l64_h ?_)
  refine w_iconst (n := 22) (nI 1) dX7_noteLone_21 (by decide) rfl ?_
  refine w_ic_ne (n := 25) 36 dX7_noteLone_22 (by decide) rfl (fun z22_h => ?_) (fun z22_h => ?_)
  · skip
    refine w_il5 (n := 38) dX7_noteLone_36 rfl ?_
    refine w_if_eq (n := 41) 42 dX7_noteLone_38 (by decide) rfl (fun z38_h => ?_) (fun z38_h => ?_)
    · skip
      refine w_al0 (n := 43) dX7_noteLone_42 rfl ?_
      refine g_I (n := 46) f_X7_28_7 pl_32 dX7_noteLone_43 rfl ?_
      refine w_if_ne (n := 49) 65 dX7_noteLone_46 (by decide) rfl (fun z46_h => ?_) (fun z46_h => ?_)
      · skip
        refine w_al0 (n := 66) dX7_noteLone_65 rfl ?_
        refine w_dup (n := 67) rfl dX7_noteLone_66 rfl ?_
        refine g_I (n := 70) f_X7_28_7 pl_32 dX7_noteLone_67 rfl ?_
        refine w_iconst (n := 71) (nI 1) dX7_noteLone_70 (by decide) rfl ?_
        refine w_iadd (n := 72) dX7_noteLone_71 rfl ?_
        refine p_I (n := 75) f_X7_28_7 pl_32 dX7_noteLone_72 rfl ?_
        refine w_ret dX7_noteLone_75 rfl ?_
        have zz := (q_nz (by omega)).mp z38_h
        have zy := ez.mpr zz
        have zb := bz zz
        have eb : ¬ sg_bits (ln_v σ v) = 1 := fun z => zb (by rw [z])
        first | exact absurd z22_h zb | (rw [s1_h] at z46_h; have f1_h : ¬ ln_f (ln_z σ) v = none := fun z => z46_h (by rw [cf.mpr z]; rfl); exact hq _ (dk_fr.rf.put ⟨rfl, by omega⟩) ⟨by rw [dk_put_s, s1_h, cSe_y zy, nI_add], by rw [dk_put_k (by omega), ln_su_n eb]; exact s2_h, fun u hu => by rw [dk_put_k (by omega), dk_put_k (by omega), dk_put_k (by omega)]; rw [cSe_f1 f1_h] at hu; exact s3_h u hu⟩) | (rw [s1_h] at z46_h; have f0_h : ln_f (ln_z σ) v = none := cf.mp ((q_nz (by omega)).mp z46_h); exact hq _ ((((dk_fr.rf.put ⟨rfl, by omega⟩).put ⟨rfl, by omega⟩).put ⟨rfl, by omega⟩).put ⟨rfl, by omega⟩) ⟨by rw [dk_put_s, dk_put_k (by omega), dk_put_k (by omega), dk_put_k (by omega), s1_h, cSe_y zy, nI_add], by rw [dk_put_k (by omega), dk_put_k (by omega), dk_put_k (by omega), dk_put_k (by omega), ln_su_n eb]; exact s2_h, fun u hu => by rw [cSe_f0 zy f0_h] at hu; cases hu; rw [dk_put_k (by omega), dk_put_k (by omega), dk_put_k (by omega), dk_put_s, dk_put_k (by omega), dk_put_k (by omega), dk_put_s, dk_put_k (by omega), dk_put_s, ek, eg, el]; exact ⟨rfl, rfl, rfl⟩⟩)
      · skip
        refine w_al0 (n := 50) dX7_noteLone_49 rfl ?_
        refine w_il2 (n := 51) dX7_noteLone_50 rfl ?_
        refine p_I (n := 54) f_X7_31_7 pl_32 dX7_noteLone_51 rfl ?_
        refine w_al0 (n := 55) dX7_noteLone_54 rfl ?_
        refine w_il3 (n := 56) dX7_noteLone_55 rfl ?_
        refine p_I (n := 59) f_X7_34_7 pl_32 dX7_noteLone_56 rfl ?_
        refine w_al0 (n := 60) dX7_noteLone_59 rfl ?_
        refine w_il4 (n := 62) dX7_noteLone_60 rfl ?_
        refine p_I (n := 65) f_X7_37_7 pl_32 dX7_noteLone_62 rfl ?_
        refine w_al0 (n := 66) dX7_noteLone_65 rfl ?_
        refine w_dup (n := 67) rfl dX7_noteLone_66 rfl ?_
        refine g_I (n := 70) f_X7_28_7 pl_32 dX7_noteLone_67 rfl ?_
        refine w_iconst (n := 71) (nI 1) dX7_noteLone_70 (by decide) rfl ?_
        refine w_iadd (n := 72) dX7_noteLone_71 rfl ?_
        refine p_I (n := 75) f_X7_28_7 pl_32 dX7_noteLone_72 rfl ?_
        refine w_ret dX7_noteLone_75 rfl ?_
        have zz := (q_nz (by omega)).mp z38_h
        have zy := ez.mpr zz
        have zb := bz zz
        have eb : ¬ sg_bits (ln_v σ v) = 1 := fun z => zb (by rw [z])
        first | exact absurd z22_h zb | (rw [s1_h] at z46_h; have f1_h : ¬ ln_f (ln_z σ) v = none := fun z => z46_h (by rw [cf.mpr z]; rfl); exact hq _ (dk_fr.rf.put ⟨rfl, by omega⟩) ⟨by rw [dk_put_s, s1_h, cSe_y zy, nI_add], by rw [dk_put_k (by omega), ln_su_n eb]; exact s2_h, fun u hu => by rw [dk_put_k (by omega), dk_put_k (by omega), dk_put_k (by omega)]; rw [cSe_f1 f1_h] at hu; exact s3_h u hu⟩) | (rw [s1_h] at z46_h; have f0_h : ln_f (ln_z σ) v = none := cf.mp ((q_nz (by omega)).mp z46_h); exact hq _ ((((dk_fr.rf.put ⟨rfl, by omega⟩).put ⟨rfl, by omega⟩).put ⟨rfl, by omega⟩).put ⟨rfl, by omega⟩) ⟨by rw [dk_put_s, dk_put_k (by omega), dk_put_k (by omega), dk_put_k (by omega), s1_h, cSe_y zy, nI_add], by rw [dk_put_k (by omega), dk_put_k (by omega), dk_put_k (by omega), dk_put_k (by omega), ln_su_n eb]; exact s2_h, fun u hu => by rw [cSe_f0 zy f0_h] at hu; cases hu; rw [dk_put_k (by omega), dk_put_k (by omega), dk_put_k (by omega), dk_put_s, dk_put_k (by omega), dk_put_k (by omega), dk_put_s, dk_put_k (by omega), dk_put_s, ek, eg, el]; exact ⟨rfl, rfl, rfl⟩⟩)
    · skip
      refine w_ret dX7_noteLone_41 rfl ?_
      have nz : ¬ ln_z σ v = true := fun z => z38_h ((q_nz (by omega)).mpr (ez.mp z))
      rw [nI_eq (by omega) (by omega)] at z22_h
      first | exact hq M dk_fr.rf ⟨by rw [cSe_n nz]; exact s1_h, by rw [ln_su_n z22_h]; exact s2_h, fun u hu => by rw [cSe_fn nz] at hu; exact s3_h u hu⟩ | exact hq _ (dk_fr.rf.put ⟨rfl, by omega⟩) ⟨by rw [dk_put_k (by omega), cSe_n nz]; exact s1_h, by rw [dk_put_s, ln_su_y z22_h], fun u hu => by rw [dk_put_k (by omega), dk_put_k (by omega), dk_put_k (by omega)]; rw [cSe_fn nz] at hu; exact s3_h u hu⟩
  · skip
    refine w_al0 (n := 26) dX7_noteLone_25 rfl ?_
    refine w_dup (n := 27) rfl dX7_noteLone_26 rfl ?_
    refine g_I (n := 30) f_X7_40_7 pl_32 dX7_noteLone_27 rfl ?_
    rw [s2_h]
    refine w_il5 (n := 32) dX7_noteLone_30 rfl ?_
    refine w_ior (n := 33) dX7_noteLone_32 rfl ?_
    rw [(q_orr _ s64_h _ l64_h).1]
    refine p_I (n := 36) f_X7_40_7 pl_32 dX7_noteLone_33 rfl ?_
    refine w_il5 (n := 38) dX7_noteLone_36 rfl ?_
    refine w_if_eq (n := 41) 42 dX7_noteLone_38 (by decide) rfl (fun z38_h => ?_) (fun z38_h => ?_)
    · skip
      refine w_al0 (n := 43) dX7_noteLone_42 rfl ?_
      refine g_I (n := 46) f_X7_28_7 pl_32 dX7_noteLone_43 rfl ?_
      refine w_if_ne (n := 49) 65 dX7_noteLone_46 (by decide) rfl (fun z46_h => ?_) (fun z46_h => ?_)
      · skip
        refine w_al0 (n := 66) dX7_noteLone_65 rfl ?_
        refine w_dup (n := 67) rfl dX7_noteLone_66 rfl ?_
        refine g_I (n := 70) f_X7_28_7 pl_32 dX7_noteLone_67 rfl ?_
        refine w_iconst (n := 71) (nI 1) dX7_noteLone_70 (by decide) rfl ?_
        refine w_iadd (n := 72) dX7_noteLone_71 rfl ?_
        refine p_I (n := 75) f_X7_28_7 pl_32 dX7_noteLone_72 rfl ?_
        refine w_ret dX7_noteLone_75 rfl ?_
        have zz := (q_nz (by omega)).mp z38_h
        have zy := ez.mpr zz
        have zb := bz zz
        have eb : ¬ sg_bits (ln_v σ v) = 1 := fun z => zb (by rw [z])
        first | exact absurd z22_h zb | (rw [s1_h] at z46_h; have f1_h : ¬ ln_f (ln_z σ) v = none := fun z => z46_h (by rw [cf.mpr z]; rfl); exact hq _ (dk_fr.rf.put ⟨rfl, by omega⟩) ⟨by rw [dk_put_s, s1_h, cSe_y zy, nI_add], by rw [dk_put_k (by omega), ln_su_n eb]; exact s2_h, fun u hu => by rw [dk_put_k (by omega), dk_put_k (by omega), dk_put_k (by omega)]; rw [cSe_f1 f1_h] at hu; exact s3_h u hu⟩) | (rw [s1_h] at z46_h; have f0_h : ln_f (ln_z σ) v = none := cf.mp ((q_nz (by omega)).mp z46_h); exact hq _ ((((dk_fr.rf.put ⟨rfl, by omega⟩).put ⟨rfl, by omega⟩).put ⟨rfl, by omega⟩).put ⟨rfl, by omega⟩) ⟨by rw [dk_put_s, dk_put_k (by omega), dk_put_k (by omega), dk_put_k (by omega), s1_h, cSe_y zy, nI_add], by rw [dk_put_k (by omega), dk_put_k (by omega), dk_put_k (by omega), dk_put_k (by omega), ln_su_n eb]; exact s2_h, fun u hu => by rw [cSe_f0 zy f0_h] at hu; cases hu; rw [dk_put_k (by omega), dk_put_k (by omega), dk_put_k (by omega), dk_put_s, dk_put_k (by omega), dk_put_k (by omega), dk_put_s, dk_put_k (by omega), dk_put_s, ek, eg, el]; exact ⟨rfl, rfl, rfl⟩⟩)
      · skip
        refine w_al0 (n := 50) dX7_noteLone_49 rfl ?_
        refine w_il2 (n := 51) dX7_noteLone_50 rfl ?_
        refine p_I (n := 54) f_X7_31_7 pl_32 dX7_noteLone_51 rfl ?_
        refine w_al0 (n := 55) dX7_noteLone_54 rfl ?_
        refine w_il3 (n := 56) dX7_noteLone_55 rfl ?_
        refine p_I (n := 59) f_X7_34_7 pl_32 dX7_noteLone_56 rfl ?_
        refine w_al0 (n := 60) dX7_noteLone_59 rfl ?_
        refine w_il4 (n := 62) dX7_noteLone_60 rfl ?_
        refine p_I (n := 65) f_X7_37_7 pl_32 dX7_noteLone_62 rfl ?_
        refine w_al0 (n := 66) dX7_noteLone_65 rfl ?_
        refine w_dup (n := 67) rfl dX7_noteLone_66 rfl ?_
        refine g_I (n := 70) f_X7_28_7 pl_32 dX7_noteLone_67 rfl ?_
        refine w_iconst (n := 71) (nI 1) dX7_noteLone_70 (by decide) rfl ?_
        refine w_iadd (n := 72) dX7_noteLone_71 rfl ?_
        refine p_I (n := 75) f_X7_28_7 pl_32 dX7_noteLone_72 rfl ?_
        refine w_ret dX7_noteLone_75 rfl ?_
        have zz := (q_nz (by omega)).mp z38_h
        have zy := ez.mpr zz
        have zb := bz zz
        have eb : ¬ sg_bits (ln_v σ v) = 1 := fun z => zb (by rw [z])
        first | exact absurd z22_h zb | (rw [s1_h] at z46_h; have f1_h : ¬ ln_f (ln_z σ) v = none := fun z => z46_h (by rw [cf.mpr z]; rfl); exact hq _ (dk_fr.rf.put ⟨rfl, by omega⟩) ⟨by rw [dk_put_s, s1_h, cSe_y zy, nI_add], by rw [dk_put_k (by omega), ln_su_n eb]; exact s2_h, fun u hu => by rw [dk_put_k (by omega), dk_put_k (by omega), dk_put_k (by omega)]; rw [cSe_f1 f1_h] at hu; exact s3_h u hu⟩) | (rw [s1_h] at z46_h; have f0_h : ln_f (ln_z σ) v = none := cf.mp ((q_nz (by omega)).mp z46_h); exact hq _ ((((dk_fr.rf.put ⟨rfl, by omega⟩).put ⟨rfl, by omega⟩).put ⟨rfl, by omega⟩).put ⟨rfl, by omega⟩) ⟨by rw [dk_put_s, dk_put_k (by omega), dk_put_k (by omega), dk_put_k (by omega), s1_h, cSe_y zy, nI_add], by rw [dk_put_k (by omega), dk_put_k (by omega), dk_put_k (by omega), dk_put_k (by omega), ln_su_n eb]; exact s2_h, fun u hu => by rw [cSe_f0 zy f0_h] at hu; cases hu; rw [dk_put_k (by omega), dk_put_k (by omega), dk_put_k (by omega), dk_put_s, dk_put_k (by omega), dk_put_k (by omega), dk_put_s, dk_put_k (by omega), dk_put_s, ek, eg, el]; exact ⟨rfl, rfl, rfl⟩⟩)
    · skip
      refine w_ret dX7_noteLone_41 rfl ?_
      have nz : ¬ ln_z σ v = true := fun z => z38_h ((q_nz (by omega)).mpr (ez.mp z))
      rw [nI_eq (by omega) (by omega)] at z22_h
      first | exact hq M dk_fr.rf ⟨by rw [cSe_n nz]; exact s1_h, by rw [ln_su_n z22_h]; exact s2_h, fun u hu => by rw [cSe_fn nz] at hu; exact s3_h u hu⟩ | exact hq _ (dk_fr.rf.put ⟨rfl, by omega⟩) ⟨by rw [dk_put_k (by omega), cSe_n nz]; exact s1_h, by rw [dk_put_s, ln_su_y z22_h], fun u hu => by rw [dk_put_k (by omega), dk_put_k (by omega), dk_put_k (by omega)]; rw [cSe_fn nz] at hu; exact s3_h u hu⟩

set_option maxRecDepth 20000 in
theorem c7_s3 {d : Nat} {M : dk_Mem} {Q : Option Value → dk_Mem → Prop} {σ : Nat → Nat} (hs : cs σ M) (hr : cr σ M) (o : sg_in σ) {k0_h g0_h : Nat} (hk : 1 ≤ k0_h ∧ k0_h ≤ 5) (hg : g0_h ≤ 9) (hx : ∀ M2 x4_h, dk_fr cLn M M2 → cSe σ (100 * (k0_h - 1) + 10 * g0_h + 10) M2 → dk_W (d + 6) mX7_search 50 [some (.ref 32), some (.ref 14), some (.int (nI k0_h)), some (.int (nI g0_h)), x4_h] [] M2 Q) : ∀ (n i : Nat) (M1 : dk_Mem), i ≤ 10 → 10 - i < n → dk_fr cLn M M1 → cSe σ (100 * (k0_h - 1) + 10 * g0_h + i) M1 → dk_W (d + 6) mX7_search 28 [some (.ref 32), some (.ref 14), some (.int (nI k0_h)), some (.int (nI g0_h)), some (.int (nI (9 * i)))] [] M1 Q := by
  intro n
  induction n with
  | zero => intro i M1 _ h; omega
  | succ n ih =>
    intro i M1 hi hn hf hS
    refine w_il4 (n := 30) dX7_search_28 rfl ?_
    refine w_bipush (n := 32) (nI 81) dX7_search_30 (by decide) rfl ?_
    refine w_ic_gt (n := 35) 50 dX7_search_32 (by decide) rfl (fun z32_h => ?_) (fun z32_h => ?_)
    · skip
      rw [nI_ltI (by decide) (by omega)] at z32_h
      have e : i = 10 := by omega
      subst e
      exact hx M1 _ hf hS
    · skip
      have hi9_h : i < 10 := by rw [nI_ltI (by decide) (by omega)] at z32_h; omega
      refine w_al0 (n := 36) dX7_search_35 rfl ?_
      refine w_al1 (n := 37) dX7_search_36 rfl ?_
      refine w_il2 (n := 38) dX7_search_37 rfl ?_
      refine w_il3 (n := 39) dX7_search_38 rfl ?_
      refine w_il4 (n := 41) dX7_search_39 rfl ?_
      refine w_cV4 (n := 44) pl_32 cl_7 s0_X7_noteLone k_X7_49 (Nat.le_of_ble_eq_true rfl) dX7_search_41 rfl (c7_note (v := 100 * (k0_h - 1) + 10 * g0_h + i) (hs.Ln hf) (hr.Ln hf) o (by omega) (by omega) (by omega) (by omega) hS (fun M2 a1_h a2_h => ?_))
      refine w_inc4 (n := 47) (nI 9) dX7_search_44 (by decide) rfl rfl (by decide) ?_
      refine w_goto 28 dX7_search_47 (by decide) ?_
      rw [nI_add, show 9 * i + 9 = 9 * (i + 1) by omega]
      exact ih (i + 1) M2 (by omega) (by omega) (hf.tr a1_h) a2_h

set_option maxRecDepth 20000 in
theorem c7_s50 {d : Nat} {M : dk_Mem} {Q : Option Value → dk_Mem → Prop} {k0_h g0_h : Nat} {x4_h : Option Value} (hx : dk_W d mX7_search 19 [some (.ref 32), some (.ref 14), some (.int (nI k0_h)), some (.int (nI (g0_h + 1))), x4_h] [] M Q) : dk_W d mX7_search 50 [some (.ref 32), some (.ref 14), some (.int (nI k0_h)), some (.int (nI g0_h)), x4_h] [] M Q := by
  refine w_inc3 (n := 53) (nI 1) dX7_search_50 (by decide) rfl rfl (by decide) ?_
  refine w_goto 19 dX7_search_53 (by decide) ?_
  rw [nI_add]
  exact hx

set_option maxRecDepth 20000 in
theorem c7_s2 {d : Nat} {M : dk_Mem} {Q : Option Value → dk_Mem → Prop} {σ : Nat → Nat} (hs : cs σ M) (hr : cr σ M) (o : sg_in σ) {k0_h : Nat} (hk : 1 ≤ k0_h ∧ k0_h ≤ 5) (hx : ∀ M2 x3_h x4_h, dk_fr cLn M M2 → cSe σ (100 * k0_h) M2 → dk_W (d + 6) mX7_search 56 [some (.ref 32), some (.ref 14), some (.int (nI k0_h)), x3_h, x4_h] [] M2 Q) : ∀ (n g0_h : Nat) (x4_h : Option Value) (M1 : dk_Mem), g0_h ≤ 10 → 10 - g0_h < n → dk_fr cLn M M1 → cSe σ (100 * (k0_h - 1) + 10 * g0_h) M1 → dk_W (d + 6) mX7_search 19 [some (.ref 32), some (.ref 14), some (.int (nI k0_h)), some (.int (nI g0_h)), x4_h] [] M1 Q := by
  intro n
  induction n with
  | zero => intro g0_h x4_h M1 _ h; omega
  | succ n ih =>
    intro g0_h x4_h M1 hg hn hf hS
    refine w_il3 (n := 20) dX7_search_19 rfl ?_
    refine w_bipush (n := 22) (nI 9) dX7_search_20 (by decide) rfl ?_
    refine w_ic_gt (n := 25) 56 dX7_search_22 (by decide) rfl (fun z22_h => ?_) (fun z22_h => ?_)
    · skip
      rw [nI_ltI (by decide) (by omega)] at z22_h
      rw [show 100 * (k0_h - 1) + 10 * g0_h = 100 * k0_h by omega] at hS
      exact hx M1 _ _ hf hS
    · skip
      refine w_iconst (n := 26) (nI 0) dX7_search_25 (by decide) rfl ?_
      refine w_is4 (n := 28) dX7_search_26 rfl rfl (by decide) ?_
      have hg9_h : g0_h ≤ 9 := by rw [nI_ltI (by decide) (by omega)] at z22_h; omega
      exact c7_s3 (M := M1) (hs.Ln hf) (hr.Ln hf) o hk hg9_h (fun M2 y4_h a1_h a2_h => c7_s50 (ih (g0_h + 1) y4_h M2 (by omega) (by omega) (hf.tr a1_h) (by rw [show 100 * (k0_h - 1) + 10 * (g0_h + 1) = 100 * (k0_h - 1) + 10 * g0_h + 10 by omega]; exact a2_h))) 11 0 M1 (by omega) (by omega) dk_fr.rf hS

set_option maxRecDepth 20000 in
theorem c7_s56 {d : Nat} {M : dk_Mem} {Q : Option Value → dk_Mem → Prop} {k0_h : Nat} {x3_h x4_h : Option Value} (hx : dk_W d mX7_search 12 [some (.ref 32), some (.ref 14), some (.int (nI (k0_h + 1))), x3_h, x4_h] [] M Q) : dk_W d mX7_search 56 [some (.ref 32), some (.ref 14), some (.int (nI k0_h)), x3_h, x4_h] [] M Q := by
  refine w_inc2 (n := 59) (nI 1) dX7_search_56 (by decide) rfl rfl (by decide) ?_
  refine w_goto 12 dX7_search_59 (by decide) ?_
  rw [nI_add]
  exact hx

set_option maxRecDepth 20000 in
theorem c7_s1 {d : Nat} {M : dk_Mem} {Q : Option Value → dk_Mem → Prop} {σ : Nat → Nat} (hs : cs σ M) (hr : cr σ M) (o : sg_in σ) (hq : ∀ M2, dk_fr cLn M M2 → cSe σ 500 M2 → Q none M2) : ∀ (n k0_h : Nat) (x3_h x4_h : Option Value) (M1 : dk_Mem), 1 ≤ k0_h → k0_h ≤ 6 → 6 - k0_h < n → dk_fr cLn M M1 → cSe σ (100 * (k0_h - 1)) M1 → dk_W (d + 6) mX7_search 12 [some (.ref 32), some (.ref 14), some (.int (nI k0_h)), x3_h, x4_h] [] M1 Q := by
  intro n
  induction n with
  | zero => intro k0_h x3_h x4_h M1 _ _ h; omega
  | succ n ih =>
    intro k0_h x3_h x4_h M1 h1_h hk hn hf hS
    refine w_il2 (n := 13) dX7_search_12 rfl ?_
    refine w_iconst (n := 14) (nI 5) dX7_search_13 (by decide) rfl ?_
    refine w_ic_gt (n := 17) 62 dX7_search_14 (by decide) rfl (fun z14_h => ?_) (fun z14_h => ?_)
    · skip
      refine w_ret dX7_search_62 rfl ?_
      rw [nI_ltI (by decide) (by omega)] at z14_h
      rw [show 100 * (k0_h - 1) = 500 by omega] at hS
      exact hq M1 hf hS
    · skip
      refine w_iconst (n := 18) (nI 0) dX7_search_17 (by decide) rfl ?_
      refine w_is3 (n := 19) dX7_search_18 rfl rfl (by decide) ?_
      have hk5_h : k0_h ≤ 5 := by rw [nI_ltI (by decide) (by omega)] at z14_h; omega
      exact c7_s2 (M := M1) (hs.Ln hf) (hr.Ln hf) o ⟨h1_h, hk5_h⟩ (fun M2 y3_h y4_h a1_h a2_h => c7_s56 (ih (k0_h + 1) y3_h y4_h M2 (by omega) (by omega) (by omega) (hf.tr a1_h) (by rw [show 100 * (k0_h + 1 - 1) = 100 * k0_h by omega]; exact a2_h))) 11 0 _ M1 (by omega) (by omega) dk_fr.rf (by rw [show 100 * (k0_h - 1) + 10 * 0 = 100 * (k0_h - 1) by omega]; exact hS)

set_option maxRecDepth 20000 in
theorem c7_search {d : Nat} {M : dk_Mem} {Q : Option Value → dk_Mem → Prop} {σ : Nat → Nat} (hs : cs σ M) (hr : cr σ M) (o : sg_in σ) (hq : ∀ M2, dk_fr cLn M M2 → cSe σ 500 M2 → Q none M2) : dk_Call (d + 6) mX7_search [.ref 32, .ref 14] M Q := by
  refine dk_enter [some (.ref 32), some (.ref 14), none, none, none] (by decide) (fun _ => rfl) (fun _ => Nat.le_of_ble_eq_true rfl) ?_
  refine w_al0 (n := 1) dX7_search_0 rfl ?_
  refine w_iconst (n := 2) (nI 0) dX7_search_1 (by decide) rfl ?_
  refine p_I (n := 5) f_X7_28_7 pl_32 dX7_search_2 rfl ?_
  refine w_al0 (n := 6) dX7_search_5 rfl ?_
  refine w_iconst (n := 7) (nI 0) dX7_search_6 (by decide) rfl ?_
  refine p_I (n := 10) f_X7_40_7 pl_32 dX7_search_7 rfl ?_
  refine w_iconst (n := 11) (nI 1) dX7_search_10 (by decide) rfl ?_
  refine w_is2 (n := 12) dX7_search_11 rfl rfl (by decide) ?_
  have f1_h : dk_fr cLn M (dk_put (dk_put M 32 5 (nI 0)) 32 9 (nI 0)) := (dk_fr.rf.put ⟨rfl, by omega⟩).put ⟨rfl, by omega⟩
  exact c7_s1 (hs.Ln f1_h) (hr.Ln f1_h) o (fun M2 a b => hq M2 (f1_h.tr a) b) 6 1 _ _ _ (by omega) (by omega) (by omega) dk_fr.rf ⟨by rw [dk_put_k (by omega), dk_put_s]; rfl, dk_put_s, fun v hv => by cases hv⟩

theorem cLn_N {M M' : dk_Mem} (h : dk_fr cLn M M') : dk_fr cN M M' := h.up (fun q k z => by unfold cLn at z; unfold cN; omega)

set_option maxRecDepth 20000 in
theorem C_lone {d : Nat} {M : dk_Mem} {Q : Option Value → dk_Mem → Prop} {K : sg_K} (hK : cK K M) {x : Int32} (hq : ∀ M2, dk_fr cN M M2 → Q (some (.int (kf_lone K x))) M2) : dk_Call (d + 7) mX11_lone [.ref 0, .int x] M Q := by
  have hK0 := hK
  obtain ⟨⟨o, p1_h, p2_h, p3_h⟩, hs, hc, hb, hcr, hsc, hz, β, hβ, hβ1, hβ2⟩ := hK0
  have o4_h := o.2.2.2.1
  have o16_h := o.2.1
  have hm : dk_mo 22 := Or.inl rfl
  have hin := hK.1
  unfold kf_lone at hq
  refine dk_enter [some (.ref 0), some (.int x), none] (by decide) (fun _ => rfl) (fun _ => Nat.le_of_ble_eq_true rfl) ?_
  refine w_il1 (n := 1) dX11_lone_0 rfl ?_
  refine w_iconst (n := 2) (nI 0) dX11_lone_1 (by decide) rfl ?_
  refine w_iconst (n := 3) (nI 3) dX11_lone_2 (by decide) rfl ?_
  refine w_cS3 (n := 6) s0_X11_within k_X11_112 (Nat.le_of_ble_eq_true rfl) dX11_lone_3 rfl (c_within (fun t3_h => ?_) (fun t3_h => ?_))
  · skip
    refine w_if_ne (n := 9) 11 dX11_lone_6 (by decide) rfl (fun _ => ?_) (fun h => absurd h (by decide))
    rw [if_pos t3_h] at hq
    refine w_al0 (n := 12) dX11_lone_11 rfl ?_
    refine g_R (n := 15) f_X11_36_11 pl_0 rf_0_1 dX11_lone_12 rfl ?_
    refine g_R (n := 18) f_X11_281_10 pl_14 rf_14_14 dX11_lone_15 rfl ?_
    refine w_as2 (n := 19) dX11_lone_18 rfl rfl (by decide) ?_
    refine w_al2 (n := 20) dX11_lone_19 rfl ?_
    refine w_al0 (n := 21) dX11_lone_20 rfl ?_
    refine g_R (n := 24) f_X11_36_11 pl_0 rf_0_1 dX11_lone_21 rfl ?_
    refine w_cV1 (n := 27) pl_32 cl_7 s0_X7_search k_X11_289 (Nat.le_of_ble_eq_true rfl) dX11_lone_24 rfl (c7_search hs hcr hin (fun M2 a1_h a2_h => ?_))
    have f9_h := cLn_N a1_h
    obtain ⟨b1_h, b2_h, b3_h⟩ := a2_h
    have cl := ln_c_le (f := ln_z K.1) 500
    have cf := ln_cf (f := ln_z K.1) 500
    refine w_il1 (n := 28) dX11_lone_27 rfl ?_
    refine w_if_ne (n := 31) 36 dX11_lone_28 (by decide) rfl (fun z28_h => ?_) (fun z28_h => ?_)
    · skip
      refine w_al2 (n := 37) dX11_lone_36 rfl ?_
      refine g_I (n := 40) f_X11_292_7 pl_32 dX11_lone_37 rfl ?_
      refine w_if_ne (n := 43) 46 dX11_lone_40 (by decide) rfl (fun z40_h => ?_) (fun z40_h => ?_)
      · skip
        refine w_il1 (n := 47) dX11_lone_46 rfl ?_
        refine w_iconst (n := 48) (nI 1) dX11_lone_47 (by decide) rfl ?_
        refine w_ic_ne (n := 51) 56 dX11_lone_48 (by decide) rfl (fun z48_h => ?_) (fun z48_h => ?_)
        · skip
          refine w_il1 (n := 57) dX11_lone_56 rfl ?_
          refine w_iconst (n := 58) (nI 2) dX11_lone_57 (by decide) rfl ?_
          refine w_ic_ne (n := 61) 68 dX11_lone_58 (by decide) rfl (fun z58_h => ?_) (fun z58_h => ?_)
          · skip
            refine w_al2 (n := 69) dX11_lone_68 rfl ?_
            refine g_I (n := 72) f_X11_301_7 pl_32 dX11_lone_69 rfl ?_
            refine w_retI dX11_lone_72 rfl ?_
            rw [if_neg (show ¬ x = nI 0 from z28_h)] at hq
            rw [b1_h] at z40_h
            cases e9_h : ln_f (ln_z K.1) 500 with
            | none => exact absurd (by rw [cf.mpr e9_h]; rfl) z40_h
            | some v =>
              rw [e9_h] at hq
              dsimp only at hq
              have b4_h := b3_h v e9_h
              first | (rw [if_pos z48_h] at hq; rw [b4_h.1]; exact hq M2 f9_h) | (rw [if_neg z48_h, if_pos z58_h] at hq; rw [b4_h.2.1]; exact hq M2 f9_h) | (rw [if_neg z48_h, if_neg z58_h] at hq; rw [b4_h.2.2]; exact hq M2 f9_h)
          · skip
            refine w_al2 (n := 62) dX11_lone_61 rfl ?_
            refine g_I (n := 65) f_X11_298_7 pl_32 dX11_lone_62 rfl ?_
            refine w_goto 72 dX11_lone_65 (by decide) ?_
            refine w_retI dX11_lone_72 rfl ?_
            rw [if_neg (show ¬ x = nI 0 from z28_h)] at hq
            rw [b1_h] at z40_h
            cases e9_h : ln_f (ln_z K.1) 500 with
            | none => exact absurd (by rw [cf.mpr e9_h]; rfl) z40_h
            | some v =>
              rw [e9_h] at hq
              dsimp only at hq
              have b4_h := b3_h v e9_h
              first | (rw [if_pos z48_h] at hq; rw [b4_h.1]; exact hq M2 f9_h) | (rw [if_neg z48_h, if_pos z58_h] at hq; rw [b4_h.2.1]; exact hq M2 f9_h) | (rw [if_neg z48_h, if_neg z58_h] at hq; rw [b4_h.2.2]; exact hq M2 f9_h)
        · skip
          refine w_al2 (n := 52) dX11_lone_51 rfl ?_
          refine g_I (n := 55) f_X11_295_7 pl_32 dX11_lone_52 rfl ?_
          refine w_retI dX11_lone_55 rfl ?_
          rw [if_neg (show ¬ x = nI 0 from z28_h)] at hq
          rw [b1_h] at z40_h
          cases e9_h : ln_f (ln_z K.1) 500 with
          | none => exact absurd (by rw [cf.mpr e9_h]; rfl) z40_h
          | some v =>
            rw [e9_h] at hq
            dsimp only at hq
            have b4_h := b3_h v e9_h
            first | (rw [if_pos z48_h] at hq; rw [b4_h.1]; exact hq M2 f9_h) | (rw [if_neg z48_h, if_pos z58_h] at hq; rw [b4_h.2.1]; exact hq M2 f9_h) | (rw [if_neg z48_h, if_neg z58_h] at hq; rw [b4_h.2.2]; exact hq M2 f9_h)
      · skip
        refine w_bipush (n := 45) (-3) dX11_lone_43 (by decide) rfl ?_
        refine w_retI dX11_lone_45 rfl ?_
        rw [if_neg (show ¬ x = nI 0 from z28_h)] at hq
        rw [b1_h] at z40_h
        rw [cf.mp ((q_nz (by omega)).mp z40_h)] at hq
        exact hq M2 f9_h
    · skip
      refine w_al2 (n := 32) dX11_lone_31 rfl ?_
      refine g_I (n := 35) f_X11_292_7 pl_32 dX11_lone_32 rfl ?_
      refine w_retI dX11_lone_35 rfl ?_
      rw [if_pos (show x = nI 0 from z28_h)] at hq
      rw [b1_h]
      exact hq M2 f9_h
  · skip
    refine w_if_ne (n := 9) 11 dX11_lone_6 (by decide) rfl (fun h => absurd h (by decide)) (fun _ => ?_)
    refine w_iconst (n := 10) (-1) dX11_lone_9 (by decide) rfl ?_
    refine w_retI dX11_lone_10 rfl ?_
    rw [if_neg t3_h] at hq
    exact hq M dk_fr.rf

set_option maxRecDepth 20000 in
theorem C_liar {d : Nat} {M : dk_Mem} {Q : Option Value → dk_Mem → Prop} {K : sg_K} (hK : cK K M) (hq : ∀ M2, dk_fr cN M M2 → Q (some (.int (kf_liar K))) M2) : dk_Call (d + 7) mX11_liar [.ref 0] M Q := by
  have hK0 := hK
  obtain ⟨⟨o, p1_h, p2_h, p3_h⟩, hs, hc, hb, hcr, hsc, hz, β, hβ, hβ1, hβ2⟩ := hK0
  have o4_h := o.2.2.2.1
  have o16_h := o.2.1
  have hm : dk_mo 22 := Or.inl rfl
  have hin := hK.1
  unfold kf_liar at hq
  have o5_h := o.2.2.2.2.1
  refine dk_enter [some (.ref 0), none] (by decide) (fun _ => rfl) (fun _ => Nat.le_of_ble_eq_true rfl) ?_
  refine w_al0 (n := 1) dX11_liar_0 rfl ?_
  refine g_R (n := 4) f_X11_36_11 pl_0 rf_0_1 dX11_liar_1 rfl ?_
  refine g_R (n := 7) f_X11_281_10 pl_14 rf_14_14 dX11_liar_4 rfl ?_
  refine w_as1 (n := 8) dX11_liar_7 rfl rfl (by decide) ?_
  refine w_al1 (n := 9) dX11_liar_8 rfl ?_
  refine w_al0 (n := 10) dX11_liar_9 rfl ?_
  refine g_R (n := 13) f_X11_36_11 pl_0 rf_0_1 dX11_liar_10 rfl ?_
  refine w_cV1 (n := 16) pl_32 cl_7 s0_X7_search k_X11_289 (Nat.le_of_ble_eq_true rfl) dX11_liar_13 rfl (c7_search hs hcr hin (fun M2 a1_h a2_h => ?_))
  have f9_h := cLn_N a1_h
  obtain ⟨b1_h, b2_h, b3_h⟩ := a2_h
  have cl := ln_c_le (f := ln_z K.1) 500
  have cf := ln_cf (f := ln_z K.1) 500
  refine w_al1 (n := 17) dX11_liar_16 rfl ?_
  refine g_I (n := 20) f_X11_292_7 pl_32 dX11_liar_17 rfl ?_
  refine w_if_le (n := 23) 28 dX11_liar_20 (by decide) rfl (fun z20_h => ?_) (fun z20_h => ?_)
  · skip
    refine w_al1 (n := 29) dX11_liar_28 rfl ?_
    refine g_I (n := 32) f_X11_304_7 pl_32 dX11_liar_29 rfl ?_
    rw [b2_h]
    refine w_cS1 (n := 35) s0_X11_leastOf k_X11_275 (Nat.le_of_ble_eq_true rfl) dX11_liar_32 rfl (c_leastOf (ln_su_64 o5_h 500) ?_)
    refine w_retI dX11_liar_35 rfl ?_
    rw [b1_h] at z20_h
    cases e9_h : ln_f (ln_z K.1) 500 with
    | none =>
      rw [e9_h] at hq
      first | exact hq M2 f9_h | exact absurd (by rw [cf.mpr e9_h]; decide) z20_h
    | some v =>
      rw [e9_h] at hq
      first | exact hq M2 f9_h | (exfalso; rw [show (0 : Int32) = nI 0 from rfl, q_le (by omega) (by omega)] at z20_h; have := cf.mp (by omega); rw [e9_h] at this; cases this)
  · skip
    refine w_bipush (n := 25) (-3) dX11_liar_23 (by decide) rfl ?_
    refine w_goto 35 dX11_liar_25 (by decide) ?_
    refine w_retI dX11_liar_35 rfl ?_
    rw [b1_h] at z20_h
    cases e9_h : ln_f (ln_z K.1) 500 with
    | none =>
      rw [e9_h] at hq
      first | exact hq M2 f9_h | exact absurd (by rw [cf.mpr e9_h]; decide) z20_h
    | some v =>
      rw [e9_h] at hq
      first | exact hq M2 f9_h | (exfalso; rw [show (0 : Int32) = nI 0 from rfl, q_le (by omega) (by omega)] at z20_h; have := cf.mp (by omega); rw [e9_h] at this; cases this)
