set_option maxRecDepth 20000 in
theorem c_tmZ {d : Nat} {Q : Option Value → dk_Mem → Prop} {nn v zz en ii a : Int32} {y : Nat} {M1 : dk_Mem} {K : sg_K} (hy : y = 16) (hin : sg_in K.1) (hs : cs K.1 M1) (hc : cm 79 K.1 M1) (hx : dk_W (d + 8) mX11_times 119 [some (.ref 0), some (.int nn), some (.int v), some (.int zz), some (.int en), some (.int ii), some (.int a), some (.int (nI y))] [] M1 Q) : dk_W (d + 8) mX11_times 63 [some (.ref 0), some (.int nn), some (.int v), some (.int zz), some (.int en), some (.int ii), some (.int a), some (.int (nI y))] [] M1 Q := by
  refine w_il7 (n := 65) dX11_times_63 rfl ?_
  refine w_bipush (n := 67) (nI 16) dX11_times_65 (by decide) rfl ?_
  refine w_ic_ge (n := 70) 119 dX11_times_67 (by decide) rfl (fun z67 => ?_) (fun z67 => ?_)
  · skip
    exact hx
  · skip
    exact absurd (by rw [q_le (by omega) (by omega)]; omega) z67

set_option maxRecDepth 20000 in
theorem c_tmS {d : Nat} {Q : Option Value → dk_Mem → Prop} {nn v en ii : Int32} {y a : Nat} {K : sg_K} {M1 : dk_Mem} (hy : y < 16) (hin : sg_in K.1) (hs : cs K.1 M1) (hc : cm 79 K.1 M1) (hb : cbb K.2.1 M1) (h1 : K.1 0 ≤ K.1 1 → dk_W (d + 8) mX11_times 119 [some (.ref 0), some (.int nn), some (.int v), some (.int K.2.2.2), some (.int en), some (.int ii), some (.int (nI a)), some (.int (nI y))] [] M1 Q) (h0 : K.1 1 < K.1 0 → ∀ M3, cm 79 (sg_goes K.2.1 K.1 (sg_lt K)).1 M3 → dk_fr (cX 79) M1 M3 → dk_W (d + 8) mX11_times 63 [some (.ref 0), some (.int nn), some (.int v), some (.int (sg_z K.2.2.2)), some (.int en), some (.int ii), some (.int (nI (a + (sg_goes K.2.1 K.1 (sg_lt K)).2))), some (.int (nI (y + 1)))] [] M3 Q) : dk_W (d + 8) mX11_times 63 [some (.ref 0), some (.int nn), some (.int v), some (.int K.2.2.2), some (.int en), some (.int ii), some (.int (nI a)), some (.int (nI y))] [] M1 Q := by
  have hm9 : dk_mo 79 := cK.m9
  have o := hin.1
  have o4 := o.2.2.2.1
  refine w_il7 (n := 65) dX11_times_63 rfl ?_
  refine w_bipush (n := 67) (nI 16) dX11_times_65 (by decide) rfl ?_
  refine w_ic_ge (n := 70) 119 dX11_times_67 (by decide) rfl (fun z67 => ?_) (fun z67 => ?_)
  · skip
    first | exact h1 t78 | (exfalso; rw [q_le (by omega) (by omega)] at z67; omega)
  · skip
    refine w_al0 (n := 71) dX11_times_70 rfl ?_
    refine g_R (n := 74) f_X11_36_11 pl_0 rf_0_1 dX11_times_71 rfl ?_
    refine w_al0 (n := 75) dX11_times_74 rfl ?_
    refine g_R (n := 78) f_X11_59_11 pl_0 rf_0_5 dX11_times_75 rfl ?_
    refine w_cV1 (n := 81) pl_14 cl_10 s0_X10_isOver k_X11_197 (Nat.le_of_ble_eq_true rfl) dX11_times_78 rfl (c10_isOver hs o hm9 hc (fun t78 => ?_) (fun t78 => ?_))
    · skip
      refine w_if_ne (n := 84) 119 dX11_times_81 (by decide) rfl (fun _ => ?_) (fun h => absurd h (by decide))
      first | exact h1 t78 | (exfalso; rw [q_le (by omega) (by omega)] at z67; omega)
    · skip
      refine w_if_ne (n := 84) 119 dX11_times_81 (by decide) rfl (fun h => absurd h (by decide)) (fun _ => ?_)
      refine w_il3 (n := 85) dX11_times_84 rfl ?_
      refine w_cS1 (n := 88) s0_X11_nextLot k_X11_310 (Nat.le_of_ble_eq_true rfl) dX11_times_85 rfl (c_next ?_)
      refine w_is3 (n := 89) dX11_times_88 rfl rfl (by decide) ?_
      refine w_il6 (n := 91) dX11_times_89 rfl ?_
      refine w_al0 (n := 92) dX11_times_91 rfl ?_
      refine g_R (n := 95) f_X11_36_11 pl_0 rf_0_1 dX11_times_92 rfl ?_
      refine w_al0 (n := 96) dX11_times_95 rfl ?_
      refine g_R (n := 99) f_X11_59_11 pl_0 rf_0_5 dX11_times_96 rfl ?_
      refine w_al0 (n := 100) dX11_times_99 rfl ?_
      refine g_R (n := 103) f_X11_36_11 pl_0 rf_0_1 dX11_times_100 rfl ?_
      refine w_il3 (n := 104) dX11_times_103 rfl ?_
      refine w_cV1 (n := 107) pl_14 cl_10 s0_X10_actByLot k_X11_313 (Nat.le_of_ble_eq_true rfl) dX11_times_104 rfl (c10_abl o4 hs.count ?_)
      have ea := sg_ot_act (sg_la (sg_z K.2.2.2) (K.1 4))
      have et : sg_ot (sg_la (sg_z K.2.2.2) (K.1 4)) = sg_lt K := rfl
      rw [et] at ea
      rw [← ea]
      refine w_cV2 (n := 110) pl_14 cl_10 s0_X10_passYear k_X11_241 (Nat.le_of_ble_eq_true rfl) dX11_times_107 rfl (c10_py hs o hm9 hc sg_lt_lt hb (fun M3 g1 g2 => ?_))
      refine w_iadd (n := 111) dX11_times_110 rfl ?_
      rw [nI_add]
      refine w_is6 (n := 113) dX11_times_111 rfl rfl (by decide) ?_
      refine w_inc7 (n := 116) (nI 1) dX11_times_113 (by decide) rfl rfl (by decide) ?_
      refine w_goto 63 dX11_times_116 (by decide) ?_
      rw [nI_add]
      exact h0 t78 M3 g1 g2

theorem pr21 {α β γ : Type} {x : α} {A : β} {B : γ} : (x, (A, B)).2.1 = A := rfl
theorem pr221 {α β γ δ : Type} {x : α} {A : β} {B : γ} {C : δ} : (x, (A, B, C)).2.2.1 = B := rfl
theorem pr2222 {α β γ δ ε : Type} {x : α} {A : β} {B : γ} {C : δ} {D : ε} : (x, (A, B, C, D)).2.2.2.2 = D := rfl
theorem kf_lot_1 {K : sg_K} (h : K.1 1 < K.1 0) : (kf_lot K).2.1 = (sg_goes K.2.1 K.1 (sg_lt K)).1 := (congrArg (fun p => p.2.1) (kf_lot_e h)).trans pr21
theorem kf_lot_2 {K : sg_K} (h : K.1 1 < K.1 0) : (kf_lot K).2.2.1 = K.2.1 := (congrArg (fun p => p.2.2.1) (kf_lot_e h)).trans pr221
theorem kf_lot_3 {K : sg_K} (h : K.1 1 < K.1 0) : (kf_lot K).2.2.2.2 = sg_z K.2.2.2 := (congrArg (fun p => p.2.2.2.2) (kf_lot_e h)).trans pr2222
theorem c_tmI {d : Nat} {M : dk_Mem} {Q : Option Value → dk_Mem → Prop} {nn v en ii : Int32} : ∀ (n y a : Nat) (K : sg_K) (M1 : dk_Mem), y + n = 16 → K.1 0 - K.1 1 ≤ n → sg_in K.1 → cs K.1 M1 → cm 79 K.1 M1 → cbb K.2.1 M1 → dk_fr cN M M1 → (∀ M2 y2, dk_fr cN M M2 → dk_W (d + 8) mX11_times 119 [some (.ref 0), some (.int nn), some (.int v), some (.int (sg_lr n K).2.2.2.2), some (.int en), some (.int ii), some (.int (nI (a + (sg_lr n K).1))), some (.int y2)] [] M2 Q) → dk_W (d + 8) mX11_times 63 [some (.ref 0), some (.int nn), some (.int v), some (.int K.2.2.2), some (.int en), some (.int ii), some (.int (nI a)), some (.int (nI y))] [] M1 Q := by
  have hm9 : dk_mo 79 := cK.m9
  intro n
  induction n with
  | zero => intro y a K M1 hi hyr hin hs hc hb hf hx; exact c_tmZ (by omega) hin hs hc (hx M1 (nI y) hf)
  | succ n ih =>
    intro y a K M1 hi hyr hin hs hc hb hf hx
    refine c_tmS (by omega) hin hs hc hb (fun t => ?_) (fun t M3 g1 g2 => ?_)
    · rw [sg_lr_over t] at hx; exact hx M1 _ hf
    · have o4 := hin.1.2.2.2.1
      have t6 : ∀ h, sg_lt K = some h → h < 6 := fun h e => by have := sg_lt_lt h e; omega
      rw [sg_lr_s t] at hx
      have e1 : (kf_lot K).2.1 = (sg_goes K.2.1 K.1 (sg_lt K)).1 := kf_lot_1 t
      have e2 : (kf_lot K).2.2.1 = K.2.1 := kf_lot_2 t
      have e3 : (kf_lot K).2.2.2.2 = sg_z K.2.2.2 := kf_lot_3 t
      have i2 := hin.goes (w := K.2.1) t6 t
      have s2 := (hs.X hm9 g2).eqv (sg_eqv.goes (w := K.2.1) (t := sg_lt K))
      have ey : (sg_goes K.2.1 K.1 (sg_lt K)).1 0 - (sg_goes K.2.1 K.1 (sg_lt K)).1 1 ≤ n := by
        rw [sg_goes_1, sg_goes_o (by omega) (by omega)]
        omega
      have b2 := hb.X hm9 g2
      rw [← e1] at i2 s2 ey g1
      rw [← e2] at b2
      rw [← e3]
      refine ih (y + 1) _ (kf_lot K).2 M3 (by omega) ey i2 s2 g1 b2 (hf.tr (cX79 g2)) (fun M4 y2 k1 => ?_)
      have k9 := hx M4 y2 k1
      rw [Nat.add_assoc]
      exact k9

set_option maxRecDepth 20000 in
theorem c_tmE {d : Nat} {Q : Option Value → dk_Mem → Prop} {M2 : dk_Mem} {N v c k s : Nat} {z y2 : Int32} (hs : s < 1000) (hv : v < 1000) (hn : dk_W (d + 8) mX11_times 37 [some (.ref 0), some (.int (nI N)), some (.int (nI v)), some (.int z), some (.int (nI (c + if v ≤ s then 1 else 0))), some (.int (nI (k + 1))), some (.int (nI s)), some (.int y2)] [] M2 Q) : dk_W (d + 8) mX11_times 119 [some (.ref 0), some (.int (nI N)), some (.int (nI v)), some (.int z), some (.int (nI c)), some (.int (nI k)), some (.int (nI s)), some (.int y2)] [] M2 Q := by
  refine w_il6 (n := 121) dX11_times_119 rfl ?_
  refine w_il2 (n := 122) dX11_times_121 rfl ?_
  refine w_ic_lt (n := 125) 128 dX11_times_122 (by decide) rfl (fun z122 => ?_) (fun z122 => ?_)
  · skip
    refine w_inc5 (n := 131) (nI 1) dX11_times_128 (by decide) rfl rfl (by decide) ?_
    refine w_goto 37 dX11_times_131 (by decide) ?_
    first | (rw [if_pos (by rw [nI_ltI (by omega) (by omega)] at z122; omega)] at hn; rw [nI_add, nI_add]; exact hn) | (rw [if_neg (by rw [nI_ltI (by omega) (by omega)] at z122; omega), Nat.add_zero] at hn; rw [nI_add]; exact hn)
  · skip
    refine w_inc4 (n := 128) (nI 1) dX11_times_125 (by decide) rfl rfl (by decide) ?_
    refine w_inc5 (n := 131) (nI 1) dX11_times_128 (by decide) rfl rfl (by decide) ?_
    refine w_goto 37 dX11_times_131 (by decide) ?_
    first | (rw [if_pos (by rw [nI_ltI (by omega) (by omega)] at z122; omega)] at hn; rw [nI_add, nI_add]; exact hn) | (rw [if_neg (by rw [nI_ltI (by omega) (by omega)] at z122; omega), Nat.add_zero] at hn; rw [nI_add]; exact hn)

set_option maxRecDepth 20000 in
theorem c_tmL {d : Nat} {M : dk_Mem} {Q : Option Value → dk_Mem → Prop} {K : sg_K} (hK : cK K M) {N v : Nat} (hN : N ≤ 40) (hv : v < 1000) {T0 : Nat} (hq : ∀ M1, dk_fr cN M M1 → Q (some (.int (nI T0))) M1) : ∀ (n k c : Nat) (z : Int32) (M1 : dk_Mem) (x6 x7 : Option Value), k ≤ N → N - k < n → dk_fr cN M M1 → c + sg_tm K v (N - k) z = T0 → dk_W (d + 8) mX11_times 37 [some (.ref 0), some (.int (nI N)), some (.int (nI v)), some (.int z), some (.int (nI c)), some (.int (nI k)), x6, x7] [] M1 Q := by
  have hm : dk_mo 22 := Or.inl rfl
  have hm9 : dk_mo 79 := cK.m9
  intro n
  induction n with
  | zero => intro k c z M1 x6 x7 _ h; omega
  | succ n ih =>
    intro k c z M1 x6 x7 hi hn hf he
    have hK1 := hK.N hf
    obtain ⟨hin, hs, hc, hb, -⟩ := hK1
    have o := hin.1
    have o4 := o.2.2.2.1
    have o16 := o.2.1
    refine w_il5 (n := 39) dX11_times_37 rfl ?_
    refine w_il1 (n := 40) dX11_times_39 rfl ?_
    refine w_ic_ge (n := 43) 134 dX11_times_40 (by decide) rfl (fun z40 => ?_) (fun z40 => ?_)
    · skip
      refine w_il4 (n := 136) dX11_times_134 rfl ?_
      refine w_retI dX11_times_136 rfl ?_
      rw [show N - k = 0 by rw [q_le (by omega) (by omega)] at z40; omega, sg_tm, Nat.add_zero] at he
      rw [he]
      exact hq M1 hf
    · skip
      refine w_al0 (n := 44) dX11_times_43 rfl ?_
      refine g_R (n := 47) f_X11_59_11 pl_0 rf_0_5 dX11_times_44 rfl ?_
      refine w_al0 (n := 48) dX11_times_47 rfl ?_
      refine g_R (n := 51) f_X11_36_11 pl_0 rf_0_1 dX11_times_48 rfl ?_
      refine g_R (n := 54) f_X11_127_10 pl_14 rf_14_9 dX11_times_51 rfl ?_
      refine w_cV1 (n := 57) pl_79 cl_4 s0_X4_take k_X11_233 (Nat.le_of_ble_eq_true rfl) dX11_times_54 rfl (c4_take hm9 hm (by decide) hc o4 (fun M2 k1 k2 => ?_))
      refine w_iconst (n := 58) (nI 0) dX11_times_57 (by decide) rfl ?_
      refine w_is6 (n := 60) dX11_times_58 rfl rfl (by decide) ?_
      refine w_iconst (n := 61) (nI 0) dX11_times_60 (by decide) rfl ?_
      refine w_is7 (n := 63) dX11_times_61 rfl rfl (by decide) ?_
      have f0 : dk_fr cN M1 M2 := k2.up (fun q k z => by unfold cN; omega)
      have hs0 : cs _ M2 := hs.fr f0 (fun q k _ _ z => by unfold cN at z; omega)
      have hb0 : cbb _ M2 := hb.fr f0 (fun q k z => Or.inr (Or.inr z))
      have hk : k < N := by rw [q_le (by omega) (by omega)] at z40; omega
      have hle := sg_lr_le 16 (K.1, K.2.1, K.2.2.1, z) hin
      refine c_tmI 16 0 0 (K.1, K.2.1, K.2.2.1, z) M2 (by omega) (by show K.1 0 - K.1 1 ≤ 16; omega) hin hs0 k1 hb0 (hf.tr f0) (fun M3 y2 g => ?_)
      rw [show N - k = (N - (k + 1)) + 1 by omega, sg_tm] at he
      rw [Nat.zero_add]
      generalize (sg_lr 16 (K.1, K.2.1, K.2.2.1, z)).1 = s at hle he ⊢
      generalize (sg_lr 16 (K.1, K.2.1, K.2.2.1, z)).2.2.2.2 = z2 at he ⊢
      exact c_tmE (by omega) hv (ih (k + 1) _ z2 M3 _ _ (by omega) (by omega) g (by omega))

set_option maxRecDepth 20000 in
theorem C_times {d : Nat} {M : dk_Mem} {Q : Option Value → dk_Mem → Prop} {K : sg_K} (hK : cK K M) {n v : Int32} (hq : ∀ M2, cK (kf_times K n v).2 M2 → dk_fr cA M M2 → Q (some (.int (kf_times K n v).1)) M2) : dk_Call (d + 9) mX11_times [.ref 0, .int n, .int v] M Q := by
  have hK0 := hK
  obtain ⟨⟨o, p1, p2, p3⟩, hs, hc, hb, hcr, hsc, hz, β, hβ, hβ1, hβ2⟩ := hK0
  have o4 := o.2.2.2.1
  have o16 := o.2.1
  have hm : dk_mo 22 := Or.inl rfl
  have hm9 : dk_mo 79 := Or.inr (Or.inr (Or.inr (Or.inr (Or.inr (Or.inr (Or.inr rfl))))))
  refine dk_enter [some (.ref 0), some (.int n), some (.int v), none, none, none, none, none] (by decide) (fun _ => rfl) (fun _ => Nat.le_of_ble_eq_true rfl) ?_
  refine w_il1 (n := 1) dX11_times_0 rfl ?_
  refine w_iconst (n := 2) (nI 1) dX11_times_1 (by decide) rfl ?_
  refine w_bipush (n := 4) (nI 40) dX11_times_2 (by decide) rfl ?_
  refine w_cS3 (n := 7) s0_X11_within k_X11_112 (Nat.le_of_ble_eq_true rfl) dX11_times_4 rfl (c_within (fun t4 => ?_) (fun t4 => ?_))
  · skip
    refine w_if_eq (n := 10) 21 dX11_times_7 (by decide) rfl (fun h => absurd h (by decide)) (fun _ => ?_)
    refine w_il2 (n := 11) dX11_times_10 rfl ?_
    refine w_iconst (n := 12) (nI 0) dX11_times_11 (by decide) rfl ?_
    refine w_sipush (n := 15) (nI 999) dX11_times_12 (by decide) rfl ?_
    refine w_cS3 (n := 18) s0_X11_within k_X11_112 (Nat.le_of_ble_eq_true rfl) dX11_times_15 rfl (c_within (fun t15 => ?_) (fun t15 => ?_))
    · skip
      refine w_if_ne (n := 21) 23 dX11_times_18 (by decide) rfl (fun _ => ?_) (fun h => absurd h (by decide))
      refine w_al0 (n := 24) dX11_times_23 rfl ?_
      refine g_R (n := 27) f_X11_36_11 pl_0 rf_0_1 dX11_times_24 rfl ?_
      refine g_I (n := 30) f_X11_307_10 pl_14 dX11_times_27 rfl ?_
      rw [hz]
      refine w_is3 (n := 31) dX11_times_30 rfl rfl (by decide) ?_
      refine w_iconst (n := 32) (nI 0) dX11_times_31 (by decide) rfl ?_
      refine w_is4 (n := 34) dX11_times_32 rfl rfl (by decide) ?_
      refine w_iconst (n := 35) (nI 0) dX11_times_34 (by decide) rfl ?_
      refine w_is5 (n := 37) dX11_times_35 rfl rfl (by decide) ?_
      have hn := tN_of (n := 40) (by decide) (Int32.le_trans (by decide) t4.1) t4.2
      have hv := tN_of (n := 999) (by decide) t15.1 t15.2
      have e9 : kf_times K n v = (nI (sg_tm K (tN v) (tN n) K.2.2.2), K) := if_pos ⟨t4, t15⟩
      rw [e9] at hq
      clear e9
      have en := hn.1
      have ev := hv.1
      generalize tN n = N at *
      generalize tN v = u at *
      subst en
      subst ev
      exact c_tmL hK hn.2 (by omega) (T0 := sg_tm K u N K.2.2.2) (fun M1 g => hq _ (hK.N g) (cN_A g)) (N + 1) 0 0 K.2.2.2 M _ _ (by omega) (by omega) dk_fr.rf (by rw [Nat.zero_add, Nat.sub_zero])
    · skip
      refine w_if_ne (n := 21) 23 dX11_times_18 (by decide) rfl (fun h => absurd h (by decide)) (fun _ => ?_)
      refine w_iconst (n := 22) (-1) dX11_times_21 (by decide) rfl ?_
      refine w_retI dX11_times_22 rfl ?_
      exact dk_fin hq (if_neg (fun z => by first | exact t4 z.1 | exact t15 z.2)) hK dk_fr.rf
  · skip
    refine w_if_eq (n := 10) 21 dX11_times_7 (by decide) rfl (fun _ => ?_) (fun h => absurd (by decide) h)
    refine w_iconst (n := 22) (-1) dX11_times_21 (by decide) rfl ?_
    refine w_retI dX11_times_22 rfl ?_
    exact dk_fin hq (if_neg (fun z => by first | exact t4 z.1 | exact t15 z.2)) hK dk_fr.rf
