set_option maxRecDepth 20000 in
theorem c_tmZ {d : Nat} {Q : Option Value → dk_Mem → Prop} {nn v zz en ii a : Int32} {y : Nat} {M1 : dk_Mem} {K : sg_K} (hy : y = 16) (hin : sg_in K.1) (hs : cs K.1 M1) (hc : cm 79 K.1 M1) (hx : dk_W (d + 8) mX11_times 119 [some (.ref 0), some (.int nn), some (.int v), some (.int zz), some (.int en), some (.int ii), some (.int a), some (.int (nI y))] [] M1 Q) : dk_W (d + 8) mX11_times 63 [some (.ref 0), some (.int nn), some (.int v), some (.int zz), some (.int en), some (.int ii), some (.int a), some (.int (nI y))] [] M1 Q := by
  refine w_il7 (n := 65) dX11_times_63 rfl ?_
  refine w_bipush (n := 67) (nI 16) dX11_times_65 (by decide) rfl ?_
  refine w_ic_ge (n := 70) 119 dX11_times_67 (by decide) rfl (fun z67 => ?_) (fun z67 => ?_)
  · skip
    exact hx
  · skip
    exact absurd (by rw [q_le (by omega) (by omega)]; omega) z67

set_option maxRecDepth 20000 in
theorem c_tmS {d : Nat} {Q : Option Value → dk_Mem → Prop} {nn v en ii : Int32} {y a : Nat} {K : sg_K} {M1 : dk_Mem} (hy : y < 16) (hin : sg_in K.1) (hs : cs K.1 M1) (hc : cm 79 K.1 M1) (hb : cbb K.2.1 M1) (h1 : K.1 0 ≤ K.1 1 → dk_W (d + 8) mX11_times 119 [some (.ref 0), some (.int nn), some (.int v), some (.int K.2.2.2), some (.int en), some (.int ii), some (.int (nI a)), some (.int (nI y))] [] M1 Q) (h0 : K.1 1 < K.1 0 → ∀ M3, cm 79 (sg_goes K.2.1 K.1 (sg_lt K)).1 M3 → dk_fr (cX 79) M1 M3 → dk_W (d + 8) mX11_times 63 [some (.ref 0), some (.int nn), some (.int v), some (.int (sg_z K.2.2.2)), some (.int en), some (.int ii), some (.int (nI (a + (sg_goes K.2.1 K.1 (sg_lt K)).2))), some (.int (nI (y + 1)))] [] M3 Q) : dk_W (d + 8) mX11_times 63 [some (.ref 0), some (.int nn), some (.int v), some (.int K.2.2.2), some (.int en), some (.int ii), some (.int (nI a)), some (.int (nI y))] [] M1 Q := by
  have hm9 : dk_mo 79 := cK.m9
  have o := hin.1
  have o4 := o.2.2.2.1
  refine w_il7 (n := 65) dX11_times_63 rfl ?_
  refine w_bipush (n := 67) (nI 16) dX11_times_65 (by decide) rfl ?_
  refine w_ic_ge (n := 70) 119 dX11_times_67 (by decide) rfl (fun z67 => ?_) (fun z67 => ?_)
  · skip
    first | exact h1 t78 | (exfalso; rw [q_le (by omega) (by omega)] at z67; omega)
  · skip
    refine w_al0 (n := 71) dX11_times_70 rfl ?_
    refine g_R (n := 74) f_X11_36_11 pl_0 rf_0_1 dX11_times_71 rfl ?_
    refine w_al0 (n := 75) dX11_times_74 rfl ?_
    refine g_R (n := 78) f_X11_59_11 pl_0 rf_0_5 dX11_times_75 rfl ?_
    refine w_cV1 (n := 81) pl_14 cl_10 s0_X10_isOver k_X11_197 (Nat.le_of_ble_eq_true rfl) dX11_times_78 rfl (c10_isOver hs o hm9 hc (fun t78 => ?_) (fun t78 => ?_))
    · skip
      refine w_if_ne (n := 84) 119 dX11_times_81 (by decide) rfl (fun _ => ?_) (fun h => absurd h (by decide))
      first | exact h1 t78 | (exfalso; rw [q_le (by omega) (by omega)] at z67; omega)
    · skip
      refine w_if_ne (n := 84) 119 dX11_times_81 (by decide) rfl (fun h => absurd h (by decide)) (fun _ => ?_)
      refine w_il3 (n := 85) dX11_times_84 rfl ?_
      refine w_cS1 (n := 88) s0_X11_nextLot k_X11_310 (Nat.le_of_ble_eq_true rfl) dX11_times_85 rfl (c_next ?_)
      refine w_is3 (n := 89) dX11_times_88 rfl rfl (by decide) ?_
      refine w_il6 (n := 91) dX11_times_89 rfl ?_
      refine w_al0 (n := 92) dX11_times_91 rfl ?_
      refine g_R (n := 95) f_X11_36_11 pl_0 rf_0_1 dX11_times_92 rfl ?_
      refine w_al0 (n := 96) dX11_times_95 rfl ?_
      refine g_R (n := 99) f_X11_59_11 pl_0 rf_0_5 dX11_times_96 rfl ?_
      refine w_al0 (n := 100) dX11_times_99 rfl ?_
      refine g_R (n := 103) f_X11_36_11 pl_0 rf_0_1 dX11_times_100 rfl ?_
      refine w_il3 (n := 104) dX11_times_103 rfl ?_
      refine w_cV1 (n := 107) pl_14 cl_10 s0_X10_actByLot k_X11_313 (Nat.le_of_ble_eq_true rfl) dX11_times_104 rfl (c10_abl o4 hs.count ?_)
      have ea := sg_ot_act (sg_la (sg_z K.2.2.2) (K.1 4))
      have et : sg_ot (sg_la (sg_z K.2.2.2) (K.1 4)) = sg_lt K := rfl
      rw [et] at ea
      rw [← ea]
      refine w_cV2 (n := 110) pl_14 cl_10 s0_X10_passYear k_X11_241 (Nat.le_of_ble_eq_true rfl) dX11_times_107 rfl (c10_py hs o hm9 hc sg_lt_lt hb (fun M3 g1 g2 => ?_))
      refine w_iadd (n := 111) dX11_times_110 rfl ?_
      rw [nI_add]
      refine w_is6 (n := 113) dX11_times_111 rfl rfl (by decide) ?_
      refine w_inc7 (n := 116) (nI 1) dX11_times_113 (by decide) rfl rfl (by decide) ?_
      refine w_goto 63 dX11_times_116 (by decide) ?_
      rw [nI_add]
      exact h0 t78 M3 g1 g2
