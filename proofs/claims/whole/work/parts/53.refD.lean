/-! ===== REPORTS laid, z, a lot ===== -/
def sg_rep (σ : Nat → Nat) (k a l m : Nat) : Nat → Nat := sg_up (sg_up (sg_up (sg_up (sg_up σ 5 (σ 5 + 1)) (65 + 4 * σ 5) k) (66 + 4 * σ 5) a) (67 + 4 * σ 5) l) (68 + 4 * σ 5) m
def sg_top (a : Int32) : Int32 := if a = nI 0 then nI 99 else nI 16
def kf_report (K : sg_K) (k a l m : Int32) : Int32 × sg_K := if (nI 0 ≤ k ∧ k ≤ nI 15) ∧ (nI 0 ≤ a ∧ a ≤ nI 1) ∧ (nI 0 ≤ l ∧ l ≤ sg_top a) ∧ l ≤ m ∧ m ≤ sg_top a then (if K.1 5 = 6 then (-2, K) else (nI (K.1 5), (sg_rep K.1 (tN k) (tN a) (tN l) (tN m), K.2))) else (-1, K)
def kf_forget (K : sg_K) : Int32 × sg_K := (nI (K.1 5), (sg_up K.1 5 0, K.2))
def kf_seed (K : sg_K) (v : Int32) : Int32 × sg_K := (K.2.2.2, (K.1, K.2.1, K.2.2.1, v))
def sg_z (z : Int32) : Int32 := z * 1103515245 + nI 12345
theorem sg_z_e (z : Int32) : z * 1103515245 + nI 12345 = sg_z z := rfl
theorem nI_s0 {c : Nat} (h : c ≤ 6) : ¬ nI c + nI 1 = 0 := by
  rcases (show c = 0 ∨ c = 1 ∨ c = 2 ∨ c = 3 ∨ c = 4 ∨ c = 5 ∨ c = 6 by omega) with rfl | rfl | rfl | rfl | rfl | rfl | rfl <;> decide
/-- whom the lot z tells, of c -/
def sg_la (z : Int32) (c : Nat) : Nat := z.toUInt32.toNat / 65536 % (c + 1)
def sg_ot (a : Nat) : Option Nat := match a with
  | 0 => none
  | a + 1 => some a
def kf_lot (K : sg_K) : Int32 × sg_K := if K.1 0 ≤ K.1 1 then (-4, K) else sg_yr (K.1, K.2.1, K.2.2.1, sg_z K.2.2.2) (sg_ot (sg_la (sg_z K.2.2.2) (K.1 4)))
theorem sg_yr_e {w : sg_R} {σ : Nat → Nat} {s z : Int32} {t : Option Nat} : sg_yr (σ, w, s, z) t = (nI (sg_goes w σ t).2, ((sg_goes w σ t).1, w, s + nI (sg_goes w σ t).2, z)) := rfl
theorem q_ush (x : Int32) : (x.toUInt32 >>> ((nI 16).toUInt32 &&& Int32.toUInt32 31)).toInt32 = nI (x.toUInt32.toNat / 65536) := by
  have e1 : (nI 16).toUInt32 &&& Int32.toUInt32 31 = 16 := by decide
  rw [e1]
  have e2 : x.toUInt32 >>> 16 = UInt32.ofNat (x.toUInt32.toNat / 65536) := by
    apply UInt32.toNat.inj
    rw [UInt32.toNat_shiftRight]
    have h := x.toUInt32.toNat_lt
    rw [UInt32.toNat_ofNat_of_lt' (by have : UInt32.size = 4294967296 := rfl; omega)]
    show x.toUInt32.toNat >>> 16 = _
    rw [Nat.shiftRight_eq_div_pow]
  rw [e2]
  rfl
theorem q_ush_lt (x : Int32) : x.toUInt32.toNat / 65536 < 65536 := by
  have h := x.toUInt32.toNat_lt
  omega
theorem q_lot (x : Int32) {c : Nat} (hc : c ≤ 6) : nI (x.toUInt32.toNat / 65536) - nI (x.toUInt32.toNat / 65536) / nI (c + 1) * nI (c + 1) = nI (sg_la x c) := pk_rem (by have := q_ush_lt x; omega) (by omega) (by omega)
theorem sg_la_le (z : Int32) (c : Nat) : sg_la z c ≤ c := by unfold sg_la; have := Nat.mod_lt (z.toUInt32.toNat / 65536) (show 0 < c + 1 by omega); omega
theorem sg_ot_lt {a c : Nat} (h : a ≤ c) : ∀ k, sg_ot a = some k → k < c := by
  intro k e
  cases a with
  | zero => cases e
  | succ a => cases e; omega
theorem sg_ot_enc {a : Nat} (h : a ≤ 6) : nI a - nI 1 = dk_enc (sg_ot a) := by
  rcases a with _ | a
  · decide
  · rw [q_pm1 (by omega)]; rfl
theorem sg_ot_act (a : Nat) : sg_act (sg_ot a) = a := by cases a <;> rfl
theorem sg_rep_in {σ : Nat → Nat} (o : sg_in σ) (h5 : σ 5 < 6) {k a l m : Nat} (hk : k ≤ 15) (ha : a ≤ 1) (hl : l ≤ 99) (hm : m ≤ 99) : sg_in (sg_rep σ k a l m) := by
  unfold sg_rep
  exact ((((o.u_rep (by omega)).u_r0 h5 hk).u_r1 h5 ha).u_r2 h5 hl).u_r3 h5 hm
theorem q_top {a l m : Int32} (h1 : nI 0 ≤ l) (h2 : l ≤ sg_top a) (h3 : l ≤ m) (h4 : m ≤ sg_top a) : l = nI (tN l) ∧ tN l ≤ 99 ∧ m = nI (tN m) ∧ tN m ≤ 99 := by
  have e : sg_top a ≤ nI 99 := by unfold sg_top; split <;> decide
  have l1 := tN_of (n := 99) (by decide) h1 (Int32.le_trans h2 e)
  have m1 := tN_of (n := 99) (by decide) (Int32.le_trans h1 h3) (Int32.le_trans h4 e)
  exact ⟨l1.1, l1.2, m1.1, m1.2⟩
theorem rK.zz {K : sg_K} {M : dk_Mem} (h : rK K M) {v : Int32} : rK (K.1, K.2.1, K.2.2.1, v) (dk_put M 105 3 v) := by
  obtain ⟨g1, g2, ⟨f, g3, g4⟩, g5, g6⟩ := h
  refine ⟨g1, fun j a b c => ?_, ⟨f, g3, fun k a b => ?_⟩, ?_, ?_⟩
  · rw [dk_put_k (by omega)]; exact g2 j a b c
  · rw [dk_put_k (by omega)]; exact g4 k a b
  · rw [dk_put_k (by omega)]; exact g5
  · rw [dk_put_s]

set_option maxRecDepth 20000 in
theorem R_forget {d : Nat} {M : dk_Mem} {Q : Option Value → dk_Mem → Prop} {K : sg_K} (hK : rK K M) (hq : ∀ M2, rK (kf_forget K).2 M2 → dk_fr rA M M2 → Q (some (.int (kf_forget K).1)) M2) : dk_Call (d + 3) mX12_forget [.ref 104] M Q := by
  have hK0 := hK
  obtain ⟨⟨o, p1, p2, p3⟩, hr, ⟨f, hb, hT⟩, hsc, hz⟩ := hK0
  have o4 := o.2.2.2.1
  have o16 := o.2.1
  refine dk_enter [some (.ref 104)] (by decide) (fun _ => rfl) (fun _ => Nat.le_of_ble_eq_true rfl) ?_
  refine w_al0 (n := 1) dX12_forget_0 rfl ?_
  refine w_iconst (n := 2) (nI 5) dX12_forget_1 (by decide) rfl ?_
  refine w_iconst (n := 3) (nI 0) dX12_forget_2 (by decide) rfl ?_
  refine w_cV2 (n := 6) pl_104 cl_12 s0_X12_becomes k_X12_118 (Nat.le_of_ble_eq_true rfl) dX12_forget_3 rfl (r_becomes (j := 5) (by decide) (hr 5 (by decide) (by decide) (by decide)) ?_)
  refine w_retI dX12_forget_6 rfl ?_
  exact dk_fin hq rfl (hK.up (hK.1.u_rep (by omega)) (by decide) (by decide) (by decide) (by decide)) rA_p

set_option maxRecDepth 20000 in
theorem R_seed {d : Nat} {M : dk_Mem} {Q : Option Value → dk_Mem → Prop} {K : sg_K} (hK : rK K M) {v : Int32} (hq : ∀ M2, rK (kf_seed K v).2 M2 → dk_fr rA M M2 → Q (some (.int (kf_seed K v).1)) M2) : dk_Call (d + 3) mX12_seed [.ref 104, .int v] M Q := by
  have hK0 := hK
  obtain ⟨⟨o, p1, p2, p3⟩, hr, ⟨f, hb, hT⟩, hsc, hz⟩ := hK0
  have o4 := o.2.2.2.1
  have o16 := o.2.1
  refine dk_enter [some (.ref 104), some (.int v)] (by decide) (fun _ => rfl) (fun _ => Nat.le_of_ble_eq_true rfl) ?_
  refine w_al0 (n := 1) dX12_seed_0 rfl ?_
  refine w_iconst (n := 2) (nI 3) dX12_seed_1 (by decide) rfl ?_
  refine w_il1 (n := 3) dX12_seed_2 rfl ?_
  refine w_cV2 (n := 6) pl_104 cl_12 s0_X12_becomes k_X12_118 (Nat.le_of_ble_eq_true rfl) dX12_seed_3 rfl (r_becomes (j := 3) (by decide) hz ?_)
  refine w_retI dX12_seed_6 rfl ?_
  exact dk_fin hq rfl hK.zz rA_p

set_option maxRecDepth 20000 in
theorem R_report {d : Nat} {M : dk_Mem} {Q : Option Value → dk_Mem → Prop} {K : sg_K} (hK : rK K M) {k a l m : Int32} (hq : ∀ M2, rK (kf_report K k a l m).2 M2 → dk_fr rA M M2 → Q (some (.int (kf_report K k a l m).1)) M2) : dk_Call (d + 3) mX12_report [.ref 104, .int k, .int a, .int l, .int m] M Q := by
  have hK0 := hK
  obtain ⟨⟨o, p1, p2, p3⟩, hr, ⟨f, hb, hT⟩, hsc, hz⟩ := hK0
  have o4 := o.2.2.2.1
  have o16 := o.2.1
  refine dk_enter [some (.ref 104), some (.int k), some (.int a), some (.int l), some (.int m), none, none] (by decide) (fun _ => rfl) (fun _ => Nat.le_of_ble_eq_true rfl) ?_
  refine w_il2 (n := 1) dX12_report_0 rfl ?_
  refine w_if_ne (n := 4) 9 dX12_report_1 (by decide) rfl (fun z1 => ?_) (fun z1 => ?_)
  · skip
    refine w_bipush (n := 11) (nI 16) dX12_report_9 (by decide) rfl ?_
    refine w_is5 (n := 13) dX12_report_11 rfl rfl (by decide) ?_
    first | (have e9 : a = nI 0 := z1; have et : sg_top a = nI 99 := if_pos e9; rw [← et]) | (have et : sg_top a = nI 16 := if_neg z1; rw [← et])
    refine w_il1 (n := 14) dX12_report_13 rfl ?_
    refine w_iconst (n := 15) (nI 0) dX12_report_14 (by decide) rfl ?_
    refine w_bipush (n := 17) (nI 15) dX12_report_15 (by decide) rfl ?_
    refine w_cS3 (n := 20) s0_X12_in k_X12_61 (Nat.le_of_ble_eq_true rfl) dX12_report_17 rfl (r_in (fun t17 => ?_) (fun t17 => ?_))
    · skip
      refine w_if_eq (n := 23) 53 dX12_report_20 (by decide) rfl (fun h => absurd h (by decide)) (fun _ => ?_)
      refine w_il2 (n := 24) dX12_report_23 rfl ?_
      refine w_iconst (n := 25) (nI 0) dX12_report_24 (by decide) rfl ?_
      refine w_iconst (n := 26) (nI 1) dX12_report_25 (by decide) rfl ?_
      refine w_cS3 (n := 29) s0_X12_in k_X12_61 (Nat.le_of_ble_eq_true rfl) dX12_report_26 rfl (r_in (fun t26 => ?_) (fun t26 => ?_))
      · skip
        refine w_if_eq (n := 32) 53 dX12_report_29 (by decide) rfl (fun h => absurd h (by decide)) (fun _ => ?_)
        refine w_il3 (n := 33) dX12_report_32 rfl ?_
        refine w_iconst (n := 34) (nI 0) dX12_report_33 (by decide) rfl ?_
        refine w_il5 (n := 36) dX12_report_34 rfl ?_
        refine w_cS3 (n := 39) s0_X12_in k_X12_61 (Nat.le_of_ble_eq_true rfl) dX12_report_36 rfl (r_in (fun t36 => ?_) (fun t36 => ?_))
        · skip
          refine w_if_eq (n := 42) 53 dX12_report_39 (by decide) rfl (fun h => absurd h (by decide)) (fun _ => ?_)
          refine w_il4 (n := 44) dX12_report_42 rfl ?_
          refine w_il3 (n := 45) dX12_report_44 rfl ?_
          refine w_il5 (n := 47) dX12_report_45 rfl ?_
          refine w_cS3 (n := 50) s0_X12_in k_X12_61 (Nat.le_of_ble_eq_true rfl) dX12_report_47 rfl (r_in (fun t47 => ?_) (fun t47 => ?_))
          · skip
            refine w_if_ne (n := 53) 55 dX12_report_50 (by decide) rfl (fun _ => ?_) (fun h => absurd h (by decide))
            refine w_al0 (n := 56) dX12_report_55 rfl ?_
            refine g_R (n := 59) f_X12_9_12 pl_104 rf_104_0 dX12_report_56 rfl ?_
            refine w_iconst (n := 60) (nI 5) dX12_report_59 (by decide) rfl ?_
            refine i_iald (n := 61) pl_105 (j := 5) rfl (by decide) (by decide) (hr 5 (by decide) (by decide) (by decide)) dX12_report_60 rfl ?_
            refine w_is6 (n := 63) dX12_report_61 rfl rfl (by decide) ?_
            refine w_il6 (n := 65) dX12_report_63 rfl ?_
            refine w_bipush (n := 67) (nI 6) dX12_report_65 (by decide) rfl ?_
            refine w_ic_ne (n := 70) 73 dX12_report_67 (by decide) rfl (fun z67 => ?_) (fun z67 => ?_)
            · skip
              have o5 := o.2.2.2.2.1
              have h56 : K.1 5 < 6 := by have e8 : K.1 5 ≠ 6 := fun e => z67 (by rw [e]); omega
              have ka := tN_of (n := 15) (by decide) t17.1 t17.2
              have kb := tN_of (n := 1) (by decide) t26.1 t26.2
              have kc := q_top t36.1 t36.2 t47.1 t47.2
              rw [ka.1, kb.1, kc.1, kc.2.2.1]
              refine w_al0 (n := 74) dX12_report_73 rfl ?_
              refine g_R (n := 77) f_X12_9_12 pl_104 rf_104_0 dX12_report_74 rfl ?_
              refine w_iconst (n := 78) (nI 5) dX12_report_77 (by decide) rfl ?_
              refine w_dup2 (n := 79) rfl rfl dX12_report_78 rfl ?_
              refine i_iald (n := 80) pl_105 (j := 5) rfl (by decide) (by decide) (hr 5 (by decide) (by decide) (by decide)) dX12_report_79 rfl ?_
              refine w_iconst (n := 81) (nI 1) dX12_report_80 (by decide) rfl ?_
              refine w_iadd (n := 82) dX12_report_81 rfl ?_
              refine i_iast (n := 83) pl_105 (j := 5) rfl (by decide) (by decide) dX12_report_82 rfl ?_
              refine w_al0 (n := 84) dX12_report_83 rfl ?_
              refine g_R (n := 87) f_X12_9_12 pl_104 rf_104_0 dX12_report_84 rfl ?_
              refine w_bipush (n := 89) (nI 65) dX12_report_87 (by decide) rfl ?_
              refine w_iconst (n := 90) (nI 4) dX12_report_89 (by decide) rfl ?_
              refine w_il6 (n := 92) dX12_report_90 rfl ?_
              refine w_imul (n := 93) dX12_report_92 rfl ?_
              refine w_iadd (n := 94) dX12_report_93 rfl ?_
              refine w_il1 (n := 95) dX12_report_94 rfl ?_
              refine i_iast (n := 96) pl_105 (j := 65 + 4 * K.1 5) (by rw [pk_mul, nI_add]) (by omega) (by decide) dX12_report_95 rfl ?_
              refine w_al0 (n := 97) dX12_report_96 rfl ?_
              refine g_R (n := 100) f_X12_9_12 pl_104 rf_104_0 dX12_report_97 rfl ?_
              refine w_bipush (n := 102) (nI 65) dX12_report_100 (by decide) rfl ?_
              refine w_iconst (n := 103) (nI 4) dX12_report_102 (by decide) rfl ?_
              refine w_il6 (n := 105) dX12_report_103 rfl ?_
              refine w_imul (n := 106) dX12_report_105 rfl ?_
              refine w_iadd (n := 107) dX12_report_106 rfl ?_
              refine w_iconst (n := 108) (nI 1) dX12_report_107 (by decide) rfl ?_
              refine w_iadd (n := 109) dX12_report_108 rfl ?_
              refine w_il2 (n := 110) dX12_report_109 rfl ?_
              refine i_iast (n := 111) pl_105 (j := 66 + 4 * K.1 5) (by rw [pk_mul, nI_add, nI_add]; exact congrArg nI (by omega)) (by omega) (by decide) dX12_report_110 rfl ?_
              refine w_al0 (n := 112) dX12_report_111 rfl ?_
              refine g_R (n := 115) f_X12_9_12 pl_104 rf_104_0 dX12_report_112 rfl ?_
              refine w_bipush (n := 117) (nI 65) dX12_report_115 (by decide) rfl ?_
              refine w_iconst (n := 118) (nI 4) dX12_report_117 (by decide) rfl ?_
              refine w_il6 (n := 120) dX12_report_118 rfl ?_
              refine w_imul (n := 121) dX12_report_120 rfl ?_
              refine w_iadd (n := 122) dX12_report_121 rfl ?_
              refine w_iconst (n := 123) (nI 2) dX12_report_122 (by decide) rfl ?_
              refine w_iadd (n := 124) dX12_report_123 rfl ?_
              refine w_il3 (n := 125) dX12_report_124 rfl ?_
              refine i_iast (n := 126) pl_105 (j := 67 + 4 * K.1 5) (by rw [pk_mul, nI_add, nI_add]; exact congrArg nI (by omega)) (by omega) (by decide) dX12_report_125 rfl ?_
              refine w_al0 (n := 127) dX12_report_126 rfl ?_
              refine g_R (n := 130) f_X12_9_12 pl_104 rf_104_0 dX12_report_127 rfl ?_
              refine w_bipush (n := 132) (nI 65) dX12_report_130 (by decide) rfl ?_
              refine w_iconst (n := 133) (nI 4) dX12_report_132 (by decide) rfl ?_
              refine w_il6 (n := 135) dX12_report_133 rfl ?_
              refine w_imul (n := 136) dX12_report_135 rfl ?_
              refine w_iadd (n := 137) dX12_report_136 rfl ?_
              refine w_iconst (n := 138) (nI 3) dX12_report_137 (by decide) rfl ?_
              refine w_iadd (n := 139) dX12_report_138 rfl ?_
              refine w_il4 (n := 141) dX12_report_139 rfl ?_
              refine i_iast (n := 142) pl_105 (j := 68 + 4 * K.1 5) (by rw [pk_mul, nI_add, nI_add]; exact congrArg nI (by omega)) (by omega) (by decide) dX12_report_141 rfl ?_
              refine w_il6 (n := 144) dX12_report_142 rfl ?_
              refine w_retI dX12_report_144 rfl ?_
              rw [nI_add]
              have k1 := hK.up (hK.1.u_rep (v := K.1 5 + 1) (by omega)) (by decide) (by decide) (by decide) (by decide)
              have k2 := k1.up (k1.1.u_r0 h56 ka.2) (by omega) (by omega) (by omega) (by omega)
              have k3 := k2.up (k2.1.u_r1 h56 kb.2) (by omega) (by omega) (by omega) (by omega)
              have k4 := k3.up (k3.1.u_r2 h56 kc.2.1) (by omega) (by omega) (by omega) (by omega)
              have k5 := k4.up (k4.1.u_r3 h56 kc.2.2.2) (by omega) (by omega) (by omega) (by omega)
              exact dk_fin hq (by unfold kf_report; rw [if_pos ⟨t17, t26, t36, t47⟩]; exact if_neg (by omega)) k5 (rA_pp (rA_pp (rA_pp (rA_pp rA_p))))
            · skip
              refine w_bipush (n := 72) (-2) dX12_report_70 (by decide) rfl ?_
              refine w_retI dX12_report_72 rfl ?_
              have h5 : K.1 5 = 6 := (nI_eq (by have := o.2.2.2.2.1; omega) (by decide)).mp z67
              exact dk_fin hq (by unfold kf_report; rw [if_pos ⟨t17, t26, t36, t47⟩]; exact if_pos h5) hK dk_fr.rf
          · skip
            refine w_if_ne (n := 53) 55 dX12_report_50 (by decide) rfl (fun h => absurd h (by decide)) (fun _ => ?_)
            refine w_iconst (n := 54) (-1) dX12_report_53 (by decide) rfl ?_
            refine w_retI dX12_report_54 rfl ?_
            exact dk_fin hq (if_neg (fun z => by first | exact t17 z.1 | exact t26 z.2.1 | exact t36 z.2.2.1 | exact t47 z.2.2.2)) hK dk_fr.rf
        · skip
          refine w_if_eq (n := 42) 53 dX12_report_39 (by decide) rfl (fun _ => ?_) (fun h => absurd (by decide) h)
          refine w_iconst (n := 54) (-1) dX12_report_53 (by decide) rfl ?_
          refine w_retI dX12_report_54 rfl ?_
          exact dk_fin hq (if_neg (fun z => by first | exact t17 z.1 | exact t26 z.2.1 | exact t36 z.2.2.1 | exact t47 z.2.2.2)) hK dk_fr.rf
      · skip
        refine w_if_eq (n := 32) 53 dX12_report_29 (by decide) rfl (fun _ => ?_) (fun h => absurd (by decide) h)
        refine w_iconst (n := 54) (-1) dX12_report_53 (by decide) rfl ?_
        refine w_retI dX12_report_54 rfl ?_
        exact dk_fin hq (if_neg (fun z => by first | exact t17 z.1 | exact t26 z.2.1 | exact t36 z.2.2.1 | exact t47 z.2.2.2)) hK dk_fr.rf
    · skip
      refine w_if_eq (n := 23) 53 dX12_report_20 (by decide) rfl (fun _ => ?_) (fun h => absurd (by decide) h)
      refine w_iconst (n := 54) (-1) dX12_report_53 (by decide) rfl ?_
      refine w_retI dX12_report_54 rfl ?_
      exact dk_fin hq (if_neg (fun z => by first | exact t17 z.1 | exact t26 z.2.1 | exact t36 z.2.2.1 | exact t47 z.2.2.2)) hK dk_fr.rf
  · skip
    refine w_bipush (n := 6) (nI 99) dX12_report_4 (by decide) rfl ?_
    refine w_goto 11 dX12_report_6 (by decide) ?_
    refine w_is5 (n := 13) dX12_report_11 rfl rfl (by decide) ?_
    first | (have e9 : a = nI 0 := z1; have et : sg_top a = nI 99 := if_pos e9; rw [← et]) | (have et : sg_top a = nI 16 := if_neg z1; rw [← et])
    refine w_il1 (n := 14) dX12_report_13 rfl ?_
    refine w_iconst (n := 15) (nI 0) dX12_report_14 (by decide) rfl ?_
    refine w_bipush (n := 17) (nI 15) dX12_report_15 (by decide) rfl ?_
    refine w_cS3 (n := 20) s0_X12_in k_X12_61 (Nat.le_of_ble_eq_true rfl) dX12_report_17 rfl (r_in (fun t17 => ?_) (fun t17 => ?_))
    · skip
      refine w_if_eq (n := 23) 53 dX12_report_20 (by decide) rfl (fun h => absurd h (by decide)) (fun _ => ?_)
      refine w_il2 (n := 24) dX12_report_23 rfl ?_
      refine w_iconst (n := 25) (nI 0) dX12_report_24 (by decide) rfl ?_
      refine w_iconst (n := 26) (nI 1) dX12_report_25 (by decide) rfl ?_
      refine w_cS3 (n := 29) s0_X12_in k_X12_61 (Nat.le_of_ble_eq_true rfl) dX12_report_26 rfl (r_in (fun t26 => ?_) (fun t26 => ?_))
      · skip
        refine w_if_eq (n := 32) 53 dX12_report_29 (by decide) rfl (fun h => absurd h (by decide)) (fun _ => ?_)
        refine w_il3 (n := 33) dX12_report_32 rfl ?_
        refine w_iconst (n := 34) (nI 0) dX12_report_33 (by decide) rfl ?_
        refine w_il5 (n := 36) dX12_report_34 rfl ?_
        refine w_cS3 (n := 39) s0_X12_in k_X12_61 (Nat.le_of_ble_eq_true rfl) dX12_report_36 rfl (r_in (fun t36 => ?_) (fun t36 => ?_))
        · skip
          refine w_if_eq (n := 42) 53 dX12_report_39 (by decide) rfl (fun h => absurd h (by decide)) (fun _ => ?_)
          refine w_il4 (n := 44) dX12_report_42 rfl ?_
          refine w_il3 (n := 45) dX12_report_44 rfl ?_
          refine w_il5 (n := 47) dX12_report_45 rfl ?_
          refine w_cS3 (n := 50) s0_X12_in k_X12_61 (Nat.le_of_ble_eq_true rfl) dX12_report_47 rfl (r_in (fun t47 => ?_) (fun t47 => ?_))
          · skip
            refine w_if_ne (n := 53) 55 dX12_report_50 (by decide) rfl (fun _ => ?_) (fun h => absurd h (by decide))
            refine w_al0 (n := 56) dX12_report_55 rfl ?_
            refine g_R (n := 59) f_X12_9_12 pl_104 rf_104_0 dX12_report_56 rfl ?_
            refine w_iconst (n := 60) (nI 5) dX12_report_59 (by decide) rfl ?_
            refine i_iald (n := 61) pl_105 (j := 5) rfl (by decide) (by decide) (hr 5 (by decide) (by decide) (by decide)) dX12_report_60 rfl ?_
            refine w_is6 (n := 63) dX12_report_61 rfl rfl (by decide) ?_
            refine w_il6 (n := 65) dX12_report_63 rfl ?_
            refine w_bipush (n := 67) (nI 6) dX12_report_65 (by decide) rfl ?_
            refine w_ic_ne (n := 70) 73 dX12_report_67 (by decide) rfl (fun z67 => ?_) (fun z67 => ?_)
            · skip
              have o5 := o.2.2.2.2.1
              have h56 : K.1 5 < 6 := by have e8 : K.1 5 ≠ 6 := fun e => z67 (by rw [e]); omega
              have ka := tN_of (n := 15) (by decide) t17.1 t17.2
              have kb := tN_of (n := 1) (by decide) t26.1 t26.2
              have kc := q_top t36.1 t36.2 t47.1 t47.2
              rw [ka.1, kb.1, kc.1, kc.2.2.1]
              refine w_al0 (n := 74) dX12_report_73 rfl ?_
              refine g_R (n := 77) f_X12_9_12 pl_104 rf_104_0 dX12_report_74 rfl ?_
              refine w_iconst (n := 78) (nI 5) dX12_report_77 (by decide) rfl ?_
              refine w_dup2 (n := 79) rfl rfl dX12_report_78 rfl ?_
              refine i_iald (n := 80) pl_105 (j := 5) rfl (by decide) (by decide) (hr 5 (by decide) (by decide) (by decide)) dX12_report_79 rfl ?_
              refine w_iconst (n := 81) (nI 1) dX12_report_80 (by decide) rfl ?_
              refine w_iadd (n := 82) dX12_report_81 rfl ?_
              refine i_iast (n := 83) pl_105 (j := 5) rfl (by decide) (by decide) dX12_report_82 rfl ?_
              refine w_al0 (n := 84) dX12_report_83 rfl ?_
              refine g_R (n := 87) f_X12_9_12 pl_104 rf_104_0 dX12_report_84 rfl ?_
              refine w_bipush (n := 89) (nI 65) dX12_report_87 (by decide) rfl ?_
              refine w_iconst (n := 90) (nI 4) dX12_report_89 (by decide) rfl ?_
              refine w_il6 (n := 92) dX12_report_90 rfl ?_
              refine w_imul (n := 93) dX12_report_92 rfl ?_
              refine w_iadd (n := 94) dX12_report_93 rfl ?_
              refine w_il1 (n := 95) dX12_report_94 rfl ?_
              refine i_iast (n := 96) pl_105 (j := 65 + 4 * K.1 5) (by rw [pk_mul, nI_add]) (by omega) (by decide) dX12_report_95 rfl ?_
              refine w_al0 (n := 97) dX12_report_96 rfl ?_
              refine g_R (n := 100) f_X12_9_12 pl_104 rf_104_0 dX12_report_97 rfl ?_
              refine w_bipush (n := 102) (nI 65) dX12_report_100 (by decide) rfl ?_
              refine w_iconst (n := 103) (nI 4) dX12_report_102 (by decide) rfl ?_
              refine w_il6 (n := 105) dX12_report_103 rfl ?_
              refine w_imul (n := 106) dX12_report_105 rfl ?_
              refine w_iadd (n := 107) dX12_report_106 rfl ?_
              refine w_iconst (n := 108) (nI 1) dX12_report_107 (by decide) rfl ?_
              refine w_iadd (n := 109) dX12_report_108 rfl ?_
              refine w_il2 (n := 110) dX12_report_109 rfl ?_
              refine i_iast (n := 111) pl_105 (j := 66 + 4 * K.1 5) (by rw [pk_mul, nI_add, nI_add]; exact congrArg nI (by omega)) (by omega) (by decide) dX12_report_110 rfl ?_
              refine w_al0 (n := 112) dX12_report_111 rfl ?_
              refine g_R (n := 115) f_X12_9_12 pl_104 rf_104_0 dX12_report_112 rfl ?_
              refine w_bipush (n := 117) (nI 65) dX12_report_115 (by decide) rfl ?_
              refine w_iconst (n := 118) (nI 4) dX12_report_117 (by decide) rfl ?_
              refine w_il6 (n := 120) dX12_report_118 rfl ?_
              refine w_imul (n := 121) dX12_report_120 rfl ?_
              refine w_iadd (n := 122) dX12_report_121 rfl ?_
              refine w_iconst (n := 123) (nI 2) dX12_report_122 (by decide) rfl ?_
              refine w_iadd (n := 124) dX12_report_123 rfl ?_
              refine w_il3 (n := 125) dX12_report_124 rfl ?_
              refine i_iast (n := 126) pl_105 (j := 67 + 4 * K.1 5) (by rw [pk_mul, nI_add, nI_add]; exact congrArg nI (by omega)) (by omega) (by decide) dX12_report_125 rfl ?_
              refine w_al0 (n := 127) dX12_report_126 rfl ?_
              refine g_R (n := 130) f_X12_9_12 pl_104 rf_104_0 dX12_report_127 rfl ?_
              refine w_bipush (n := 132) (nI 65) dX12_report_130 (by decide) rfl ?_
              refine w_iconst (n := 133) (nI 4) dX12_report_132 (by decide) rfl ?_
              refine w_il6 (n := 135) dX12_report_133 rfl ?_
              refine w_imul (n := 136) dX12_report_135 rfl ?_
              refine w_iadd (n := 137) dX12_report_136 rfl ?_
              refine w_iconst (n := 138) (nI 3) dX12_report_137 (by decide) rfl ?_
              refine w_iadd (n := 139) dX12_report_138 rfl ?_
              refine w_il4 (n := 141) dX12_report_139 rfl ?_
              refine i_iast (n := 142) pl_105 (j := 68 + 4 * K.1 5) (by rw [pk_mul, nI_add, nI_add]; exact congrArg nI (by omega)) (by omega) (by decide) dX12_report_141 rfl ?_
              refine w_il6 (n := 144) dX12_report_142 rfl ?_
              refine w_retI dX12_report_144 rfl ?_
              rw [nI_add]
              have k1 := hK.up (hK.1.u_rep (v := K.1 5 + 1) (by omega)) (by decide) (by decide) (by decide) (by decide)
              have k2 := k1.up (k1.1.u_r0 h56 ka.2) (by omega) (by omega) (by omega) (by omega)
              have k3 := k2.up (k2.1.u_r1 h56 kb.2) (by omega) (by omega) (by omega) (by omega)
              have k4 := k3.up (k3.1.u_r2 h56 kc.2.1) (by omega) (by omega) (by omega) (by omega)
              have k5 := k4.up (k4.1.u_r3 h56 kc.2.2.2) (by omega) (by omega) (by omega) (by omega)
              exact dk_fin hq (by unfold kf_report; rw [if_pos ⟨t17, t26, t36, t47⟩]; exact if_neg (by omega)) k5 (rA_pp (rA_pp (rA_pp (rA_pp rA_p))))
            · skip
              refine w_bipush (n := 72) (-2) dX12_report_70 (by decide) rfl ?_
              refine w_retI dX12_report_72 rfl ?_
              have h5 : K.1 5 = 6 := (nI_eq (by have := o.2.2.2.2.1; omega) (by decide)).mp z67
              exact dk_fin hq (by unfold kf_report; rw [if_pos ⟨t17, t26, t36, t47⟩]; exact if_pos h5) hK dk_fr.rf
          · skip
            refine w_if_ne (n := 53) 55 dX12_report_50 (by decide) rfl (fun h => absurd h (by decide)) (fun _ => ?_)
            refine w_iconst (n := 54) (-1) dX12_report_53 (by decide) rfl ?_
            refine w_retI dX12_report_54 rfl ?_
            exact dk_fin hq (if_neg (fun z => by first | exact t17 z.1 | exact t26 z.2.1 | exact t36 z.2.2.1 | exact t47 z.2.2.2)) hK dk_fr.rf
        · skip
          refine w_if_eq (n := 42) 53 dX12_report_39 (by decide) rfl (fun _ => ?_) (fun h => absurd (by decide) h)
          refine w_iconst (n := 54) (-1) dX12_report_53 (by decide) rfl ?_
          refine w_retI dX12_report_54 rfl ?_
          exact dk_fin hq (if_neg (fun z => by first | exact t17 z.1 | exact t26 z.2.1 | exact t36 z.2.2.1 | exact t47 z.2.2.2)) hK dk_fr.rf
      · skip
        refine w_if_eq (n := 32) 53 dX12_report_29 (by decide) rfl (fun _ => ?_) (fun h => absurd (by decide) h)
        refine w_iconst (n := 54) (-1) dX12_report_53 (by decide) rfl ?_
        refine w_retI dX12_report_54 rfl ?_
        exact dk_fin hq (if_neg (fun z => by first | exact t17 z.1 | exact t26 z.2.1 | exact t36 z.2.2.1 | exact t47 z.2.2.2)) hK dk_fr.rf
    · skip
      refine w_if_eq (n := 23) 53 dX12_report_20 (by decide) rfl (fun _ => ?_) (fun h => absurd (by decide) h)
      refine w_iconst (n := 54) (-1) dX12_report_53 (by decide) rfl ?_
      refine w_retI dX12_report_54 rfl ?_
      exact dk_fin hq (if_neg (fun z => by first | exact t17 z.1 | exact t26 z.2.1 | exact t36 z.2.2.1 | exact t47 z.2.2.2)) hK dk_fr.rf

theorem r_yrK {d : Nat} {M : dk_Mem} {Q : Option Value → dk_Mem → Prop} {K : sg_K} (hK : rK K M) {t : Option Nat} (ht : ∀ h, t = some h → h < 6) (hy : K.1 1 < K.1 0) (hq : ∀ M2, rK (sg_yr K t).2 M2 → dk_fr rG M M2 → Q (some (.int (sg_yr K t).1)) M2) : dk_Call (d + 6) mX12_goes [.ref 104, .int (dk_enc t)] M Q := by
  have hK0 := hK
  obtain ⟨⟨o, p1, p2, p3⟩, hr, ⟨f, hb, hT⟩, hsc, hz⟩ := hK0
  exact r_goes hr o ht hb hT (fun M2 g1 g2 g3 => hq M2 (hK.yr ht hy g1 g2 g3) g2)
def rL (q k : Nat) : Prop := (q = 105 ∧ k < 621) ∨ q = 109
theorem rL_A {M M' : dk_Mem} (h : dk_fr rL M M') : dk_fr rA M M' := h.up (fun q k z => by
  rcases z with z | z
  · exact Or.inl z.1
  · exact Or.inr (Or.inr (Or.inl z)))
theorem rG_L {M M' : dk_Mem} (h : dk_fr rG M M') : dk_fr rL M M' := h.up (fun q k z => by
  rcases z with z | z
  · exact Or.inl ⟨z.1, by omega⟩
  · exact Or.inr z)
theorem rK_eta {K : sg_K} {z : Int32} (hy : K.1 1 < K.1 0) : (K.1, K.2.1, K.2.2.1, z).1 1 < (K.1, K.2.1, K.2.2.1, z).1 0 := hy
set_option maxRecDepth 20000 in
theorem r_byLot {d : Nat} {M : dk_Mem} {Q : Option Value → dk_Mem → Prop} {K : sg_K} (hK : rK K M) (hy : K.1 1 < K.1 0) (hq : ∀ M2, rK (kf_lot K).2 M2 → dk_fr rL M M2 → Q (some (.int (kf_lot K).1)) M2) : dk_Call (d + 7) mX12_byLot [.ref 104] M Q := by
  have hK0 := hK
  obtain ⟨⟨o, p1, p2, p3⟩, hr, ⟨f, hb, hT⟩, hsc, hz⟩ := hK0
  have o4 := o.2.2.2.1
  have o16 := o.2.1
  have e9 : kf_lot K = sg_yr (K.1, K.2.1, K.2.2.1, sg_z K.2.2.2) (sg_ot (sg_la (sg_z K.2.2.2) (K.1 4))) := if_neg (show ¬ K.1 0 ≤ K.1 1 by omega)
  rw [e9] at hq
  clear e9
  have ht6 : ∀ h, sg_ot (sg_la (sg_z K.2.2.2) (K.1 4)) = some h → h < 6 := fun h e => Nat.lt_of_lt_of_le (sg_ot_lt (sg_la_le _ _) h e) o4
  have hK2 := hK.zz (v := sg_z K.2.2.2)
  have hr2 : rr K.1 (dk_put M 105 3 (sg_z K.2.2.2)) := hK2.2.1
  refine dk_enter [some (.ref 104)] (by decide) (fun _ => rfl) (fun _ => Nat.le_of_ble_eq_true rfl) ?_
  refine w_al0 (n := 1) dX12_byLot_0 rfl ?_
  refine g_R (n := 4) f_X12_9_12 pl_104 rf_104_0 dX12_byLot_1 rfl ?_
  refine w_iconst (n := 5) (nI 3) dX12_byLot_4 (by decide) rfl ?_
  refine w_al0 (n := 6) dX12_byLot_5 rfl ?_
  refine g_R (n := 9) f_X12_9_12 pl_104 rf_104_0 dX12_byLot_6 rfl ?_
  refine w_iconst (n := 10) (nI 3) dX12_byLot_9 (by decide) rfl ?_
  refine i_iald (n := 11) pl_105 (j := 3) rfl (by decide) (by decide) hz dX12_byLot_10 rfl ?_
  refine w_ldcw (n := 14) in_1714 dX12_byLot_11 rfl ?_
  refine w_imul (n := 15) dX12_byLot_14 rfl ?_
  refine w_sipush (n := 18) (nI 12345) dX12_byLot_15 (by decide) rfl ?_
  refine w_iadd (n := 19) dX12_byLot_18 rfl ?_
  rw [sg_z_e]
  refine i_iast (n := 20) pl_105 (j := 3) rfl (by decide) (by decide) dX12_byLot_19 rfl ?_
  refine w_al0 (n := 21) dX12_byLot_20 rfl ?_
  refine w_al0 (n := 22) dX12_byLot_21 rfl ?_
  refine g_R (n := 25) f_X12_9_12 pl_104 rf_104_0 dX12_byLot_22 rfl ?_
  refine w_iconst (n := 26) (nI 3) dX12_byLot_25 (by decide) rfl ?_
  refine i_iald (n := 27) pl_105 (j := 3) rfl (by decide) (by decide) dk_put_s dX12_byLot_26 rfl ?_
  refine w_bipush (n := 29) (nI 16) dX12_byLot_27 (by decide) rfl ?_
  refine w_iushr (n := 30) dX12_byLot_29 rfl ?_
  refine w_al0 (n := 31) dX12_byLot_30 rfl ?_
  refine g_R (n := 34) f_X12_9_12 pl_104 rf_104_0 dX12_byLot_31 rfl ?_
  refine w_iconst (n := 35) (nI 4) dX12_byLot_34 (by decide) rfl ?_
  refine i_iald (n := 36) pl_105 (j := 4) rfl (by decide) (by decide) (hr2 4 (by decide) (by decide) (by decide)) dX12_byLot_35 rfl ?_
  refine w_iconst (n := 37) (nI 1) dX12_byLot_36 (by decide) rfl ?_
  refine w_iadd (n := 38) dX12_byLot_37 rfl ?_
  refine w_irem (n := 39) (nI_s0 o4) dX12_byLot_38 rfl ?_
  rw [nI_add, q_ush, q_lot _ o4]
  refine w_iconst (n := 40) (nI 1) dX12_byLot_39 (by decide) rfl ?_
  refine w_isub (n := 41) dX12_byLot_40 rfl ?_
  rw [sg_ot_enc (Nat.le_trans (sg_la_le _ _) o4)]
  generalize sg_ot (sg_la (sg_z K.2.2.2) (K.1 4)) = t at hq ht6 ⊢
  generalize sg_z K.2.2.2 = z2 at hq hK2 hr2 ⊢
  refine w_cV1 (n := 44) pl_104 cl_12 s0_X12_goes k_X12_226 (Nat.le_of_ble_eq_true rfl) dX12_byLot_41 rfl (r_yrK hK2 ht6 (rK_eta hy) (fun M2 g1 g2 => ?_))
  refine w_retI dX12_byLot_44 rfl ?_
  exact hq M2 g1 ((dk_fr.rf.put (Or.inl ⟨rfl, by decide⟩)).tr (rG_L g2))

set_option maxRecDepth 20000 in
theorem R_lot {d : Nat} {M : dk_Mem} {Q : Option Value → dk_Mem → Prop} {K : sg_K} (hK : rK K M) (hq : ∀ M2, rK (kf_lot K).2 M2 → dk_fr rA M M2 → Q (some (.int (kf_lot K).1)) M2) : dk_Call (d + 8) mX12_lot [.ref 104] M Q := by
  have hK0 := hK
  obtain ⟨⟨o, p1, p2, p3⟩, hr, ⟨f, hb, hT⟩, hsc, hz⟩ := hK0
  have o4 := o.2.2.2.1
  have o16 := o.2.1
  refine dk_enter [some (.ref 104)] (by decide) (fun _ => rfl) (fun _ => Nat.le_of_ble_eq_true rfl) ?_
  refine w_al0 (n := 1) dX12_lot_0 rfl ?_
  refine w_cV0 (n := 4) pl_104 cl_12 s0_X12_isOver k_X12_121 (Nat.le_of_ble_eq_true rfl) dX12_lot_1 rfl (r_isOver hr o (fun t1 => ?_) (fun t1 => ?_))
  · skip
    refine w_if_eq (n := 7) 12 dX12_lot_4 (by decide) rfl (fun h => absurd h (by decide)) (fun _ => ?_)
    refine w_bipush (n := 9) (-4) dX12_lot_7 (by decide) rfl ?_
    refine w_goto 16 dX12_lot_9 (by decide) ?_
    refine w_retI dX12_lot_16 rfl ?_
    first | exact dk_fin hq (if_pos t1) hK dk_fr.rf | exact hq M2 g1 (rL_A g2)
  · skip
    refine w_if_eq (n := 7) 12 dX12_lot_4 (by decide) rfl (fun _ => ?_) (fun h => absurd (by decide) h)
    refine w_al0 (n := 13) dX12_lot_12 rfl ?_
    refine w_cV0 (n := 16) pl_104 cl_12 s0_X12_byLot k_X12_288 (Nat.le_of_ble_eq_true rfl) dX12_lot_13 rfl (r_byLot hK t1 (fun M2 g1 g2 => ?_))
    refine w_retI dX12_lot_16 rfl ?_
    first | exact dk_fin hq (if_pos t1) hK dk_fr.rf | exact hq M2 g1 (rL_A g2)
