/-! ===== the constructors ===== -/
theorem gk_fin {ci k : Nat} {C0 : String} {T0 : u_T} {N0 : Nat} {ty : Nat → FieldType} (h0 : dk_CL ci C0 T0 N0 ty) {μ : dk_Mt} (hn : μ.1.name = "<init>") (hc : (T0 k).1 = μ.1.cls) : true = true → μ.1.name = "<init>" ∧ ∀ C T N ty0, dk_CL ci C T N ty0 → (T k).1 = μ.1.cls := fun _ => ⟨hn, fun C T N ty0 h => by
  have e := Option.some.inj (h.1.symm.trans h0.1)
  have e2 : T = T0 := (Prod.mk.inj (Prod.mk.inj e).2).1
  rw [e2]; exact hc⟩
def gk_mr (M : dk_Mem) (np : Nat) : Nat → dk_Mem
  | 0 => M
  | a + 1 => dk_put (gk_mr M np a) np a (nI (np + 1 + a))
/-- the row of multianewarray: it comes out of the whole library at the end -/
def gk_Mu : Prop := ∀ {n0 nx d : Nat} {μ : dk_Mt} {pc n idx np a b : Nat} {L : List (Option Value)} {st : List Value} {M : dk_Mem} {Q : dk_Mem → Prop}, dk_ar np 26 a → a < 100 → b < 10000 → (∀ i, i < a → dk_ar (np + 1 + i) 20 b) → np + 1 + a ≤ nx → Cond.classLink μ.1.cls idx "[[I" ∈ dk_T → decode μ.2.1 pc = .ok (.multianewarray idx 2, 4) → pc + 4 = n → gk_W n0 nx d μ n L (.ref np :: st) (gk_mr M np a) (np + 1 + a) Q → gk_W n0 nx d μ pc L (.int (nI b) :: .int (nI a) :: st) M np Q
theorem gk_rw_62 : ∀ i, i < 5 → dk_ar (62 + 1 + i) 20 4 := by
  intro i hi
  rcases (show i = 0 ∨ i = 1 ∨ i = 2 ∨ i = 3 ∨ i = 4 by omega) with h | h | h | h | h
  · subst h; exact pl_63
  · subst h; exact pl_64
  · subst h; exact pl_65
  · subst h; exact pl_66
  · subst h; exact pl_67
theorem gk_rw_90 : ∀ i, i < 4 → dk_ar (90 + 1 + i) 20 3 := by
  intro i hi
  rcases (show i = 0 ∨ i = 1 ∨ i = 2 ∨ i = 3 by omega) with h | h | h | h
  · subst h; exact pl_91
  · subst h; exact pl_92
  · subst h; exact pl_93
  · subst h; exact pl_94
theorem gk_rw_97 : ∀ i, i < 4 → dk_ar (97 + 1 + i) 20 40 := by
  intro i hi
  rcases (show i = 0 ∨ i = 1 ∨ i = 2 ∨ i = 3 by omega) with h | h | h | h
  · subst h; exact pl_98
  · subst h; exact pl_99
  · subst h; exact pl_100
  · subst h; exact pl_101
section GKY
variable {n0 nx nm d : Nat} {μ ν : dk_Mt} {pc n idx n' ci p' np : Nat} {L : List (Option Value)} {st As : List Value} {M : dk_Mem} {Q : dk_Mem → Prop} {v w : Value}
theorem gw_cIN0 {K : String} (h0 : dk_S0 ν 0) (hν : ν.1 = ⟨K, "<init>", "()V"⟩) (h1 : (μ.1.cls, idx, K) ∈ gk_nl) (w1 : Cond.instanceMethod ν.1 ∈ dk_T) (hv0 : ν.2.2.2 = none) (hc : (st.map Value.category).sum ≤ 8) (hnm : np ≤ nm) (hnx : nm ≤ nx) (hd : decode μ.2.1 pc = .ok (.invokespecial idx, 3)) (hn : pc + 3 = n) (k : gk_Call np nm d ν [.ref p'] M (fun M' => gk_W n0 nx (d + 1) μ n L st M' nm Q)) : gk_W n0 nx (d + 1) μ pc L (.ref p' :: st) M np Q := gw_cIN (As := []) h0 hν h1 w1 hv0 rfl hc hnm hnx hd hn k
theorem gw_cI0 (h0 : dk_S0 ν 0) (h1 : dk_KI μ.1.cls idx ν) (hv0 : ν.2.2.2 = none) (hc : (st.map Value.category).sum ≤ 8) (hnm : np ≤ nm) (hnx : nm ≤ nx) (hd : decode μ.2.1 pc = .ok (.invokespecial idx, 3)) (hn : pc + 3 = n) (k : gk_Call np nm d ν [.ref p'] M (fun M' => gk_W n0 nx (d + 1) μ n L st M' nm Q)) : gk_W n0 nx (d + 1) μ pc L (.ref p' :: st) M np Q := gw_cI (As := []) h0 h1 hv0 rfl hc hnm hnx hd hn k
theorem gw_cI1 (h0 : dk_S0 ν 1) (h1 : dk_KI μ.1.cls idx ν) (hv0 : ν.2.2.2 = none) (hc : (st.map Value.category).sum ≤ 8) (hnm : np ≤ nm) (hnx : nm ≤ nx) (hd : decode μ.2.1 pc = .ok (.invokespecial idx, 3)) (hn : pc + 3 = n) (k : gk_Call np nm d ν [.ref p', v] M (fun M' => gk_W n0 nx (d + 1) μ n L st M' nm Q)) : gk_W n0 nx (d + 1) μ pc L (v :: .ref p' :: st) M np Q := gw_cI (As := [v]) h0 h1 hv0 rfl hc hnm hnx hd hn k
theorem gw_cS2 (h0 : dk_S0 ν 2) (h1 : dk_KS μ.1.cls idx ν) (hv0 : ν.2.2.2 = none) (hc : (st.map Value.category).sum ≤ 8) (hw9 : np ≤ nx) (hd : decode μ.2.1 pc = .ok (.invokestatic idx, 3)) (hn : pc + 3 = n) (k : gk_Call np np d ν [v, w] M (fun M' => gk_W n0 nx (d + 1) μ n L st M' np Q)) : gk_W n0 nx (d + 1) μ pc L (w :: v :: st) M np Q := gw_cS (As := [v, w]) h0 h1 hv0 rfl hc hw9 hd hn k
end GKY
def gi_X5_init_2 (M : dk_Mem) : dk_Mem := (dk_put (dk_put (dk_put (dk_put (dk_put M 2 0 (nI 3)) 2 1 (nI 0)) 2 2 (nI 0)) 2 3 (nI 0)) 2 4 (nI 0))
set_option maxRecDepth 20000 in
theorem gc_X5_init_2 {d : Nat} {M : dk_Mem} {Q : dk_Mem → Prop} (hq : Q (gi_X5_init_2 M)) : gk_Call 3 4 (d + 1) mX5_init [.ref 2] M Q := by
  refine gk_enter [some (.ref 2)] (by decide) rfl (by decide) (fun _ => rfl) (fun _ => Nat.le_of_ble_eq_true rfl) ?_
  refine gw_al0 (n := 1) dX5_init_0 rfl ?_
  refine gw_obj (n := 4) in_127 in_119 in_120 (Nat.le_of_ble_eq_true rfl) dX5_init_1 rfl ?_
  refine gw_al0 (n := 5) dX5_init_4 rfl ?_
  refine gw_bipush (n := 7) (nI 30) dX5_init_5 (by decide) rfl ?_
  refine gw_nI (n := 9) pl_3 (by decide) (by decide) dX5_init_7 rfl ?_
  refine gw_pR (n := 12) (by decide) f_X5_9_5.1 (by rw [f_X5_9_5.2]; decide) (fun a => ⟨rfl, rfl⟩) (gk_fin cl_5 rfl rfl) pl_2 (by decide) dX5_init_9 rfl ?_
  refine gw_al0 (n := 13) dX5_init_12 rfl ?_
  refine gw_iconst (n := 14) (nI 0) dX5_init_13 (by decide) rfl ?_
  refine gw_pI (n := 17) f_X5_15_5 pl_2 (by decide) dX5_init_14 rfl ?_
  refine gw_al0 (n := 18) dX5_init_17 rfl ?_
  refine gw_iconst (n := 19) (nI 0) dX5_init_18 (by decide) rfl ?_
  refine gw_pZ (n := 22) (by decide) f_X5_19_5 pl_2 (by decide) dX5_init_19 rfl ?_
  refine gw_al0 (n := 23) dX5_init_22 rfl ?_
  refine gw_iconst (n := 24) (nI 0) dX5_init_23 (by decide) rfl ?_
  refine gw_pI (n := 27) f_X5_23_5 pl_2 (by decide) dX5_init_24 rfl ?_
  refine gw_al0 (n := 28) dX5_init_27 rfl ?_
  refine gw_iconst (n := 29) (nI 0) dX5_init_28 (by decide) rfl ?_
  refine gw_pI (n := 32) f_X5_26_5 pl_2 (by decide) dX5_init_29 rfl ?_
  exact gw_ret rfl dX5_init_32 hq
def gi_X5_init_4 (M : dk_Mem) : dk_Mem := (dk_put (dk_put (dk_put (dk_put (dk_put M 4 0 (nI 5)) 4 1 (nI 0)) 4 2 (nI 0)) 4 3 (nI 0)) 4 4 (nI 0))
set_option maxRecDepth 20000 in
theorem gc_X5_init_4 {d : Nat} {M : dk_Mem} {Q : dk_Mem → Prop} (hq : Q (gi_X5_init_4 M)) : gk_Call 5 6 (d + 1) mX5_init [.ref 4] M Q := by
  refine gk_enter [some (.ref 4)] (by decide) rfl (by decide) (fun _ => rfl) (fun _ => Nat.le_of_ble_eq_true rfl) ?_
  refine gw_al0 (n := 1) dX5_init_0 rfl ?_
  refine gw_obj (n := 4) in_127 in_119 in_120 (Nat.le_of_ble_eq_true rfl) dX5_init_1 rfl ?_
  refine gw_al0 (n := 5) dX5_init_4 rfl ?_
  refine gw_bipush (n := 7) (nI 30) dX5_init_5 (by decide) rfl ?_
  refine gw_nI (n := 9) pl_5 (by decide) (by decide) dX5_init_7 rfl ?_
  refine gw_pR (n := 12) (by decide) f_X5_9_0.1 (by rw [f_X5_9_0.2]; decide) (fun a => ⟨rfl, rfl⟩) (gk_fin cl_0 rfl rfl) pl_4 (by decide) dX5_init_9 rfl ?_
  refine gw_al0 (n := 13) dX5_init_12 rfl ?_
  refine gw_iconst (n := 14) (nI 0) dX5_init_13 (by decide) rfl ?_
  refine gw_pI (n := 17) f_X5_15_0 pl_4 (by decide) dX5_init_14 rfl ?_
  refine gw_al0 (n := 18) dX5_init_17 rfl ?_
  refine gw_iconst (n := 19) (nI 0) dX5_init_18 (by decide) rfl ?_
  refine gw_pZ (n := 22) (by decide) f_X5_19_0 pl_4 (by decide) dX5_init_19 rfl ?_
  refine gw_al0 (n := 23) dX5_init_22 rfl ?_
  refine gw_iconst (n := 24) (nI 0) dX5_init_23 (by decide) rfl ?_
  refine gw_pI (n := 27) f_X5_23_0 pl_4 (by decide) dX5_init_24 rfl ?_
  refine gw_al0 (n := 28) dX5_init_27 rfl ?_
  refine gw_iconst (n := 29) (nI 0) dX5_init_28 (by decide) rfl ?_
  refine gw_pI (n := 32) f_X5_26_0 pl_4 (by decide) dX5_init_29 rfl ?_
  exact gw_ret rfl dX5_init_32 hq
def gi_X0_init_4 (M : dk_Mem) : dk_Mem := (gi_X5_init_4 M)
set_option maxRecDepth 20000 in
theorem gc_X0_init_4 {d : Nat} {M : dk_Mem} {Q : dk_Mem → Prop} (hq : Q (gi_X0_init_4 M)) : gk_Call 5 6 (d + 2) mX0_init [.ref 4] M Q := by
  refine gk_enter [some (.ref 4)] (by decide) rfl (by decide) (fun _ => rfl) (fun _ => Nat.le_of_ble_eq_true rfl) ?_
  refine gw_al0 (n := 1) dX0_init_0 rfl ?_
  refine gw_cIN0 (n := 4) (nm := 6) s0_X5_init rfl (by decide) in_125 rfl (Nat.le_of_ble_eq_true rfl) (by decide) (by decide) dX0_init_1 rfl (gc_X5_init_4 (d := d + 0) ?_)
  exact gw_ret rfl dX0_init_4 hq
def gi_X5_init_6 (M : dk_Mem) : dk_Mem := (dk_put (dk_put (dk_put (dk_put (dk_put M 6 0 (nI 7)) 6 1 (nI 0)) 6 2 (nI 0)) 6 3 (nI 0)) 6 4 (nI 0))
set_option maxRecDepth 20000 in
theorem gc_X5_init_6 {d : Nat} {M : dk_Mem} {Q : dk_Mem → Prop} (hq : Q (gi_X5_init_6 M)) : gk_Call 7 8 (d + 1) mX5_init [.ref 6] M Q := by
  refine gk_enter [some (.ref 6)] (by decide) rfl (by decide) (fun _ => rfl) (fun _ => Nat.le_of_ble_eq_true rfl) ?_
  refine gw_al0 (n := 1) dX5_init_0 rfl ?_
  refine gw_obj (n := 4) in_127 in_119 in_120 (Nat.le_of_ble_eq_true rfl) dX5_init_1 rfl ?_
  refine gw_al0 (n := 5) dX5_init_4 rfl ?_
  refine gw_bipush (n := 7) (nI 30) dX5_init_5 (by decide) rfl ?_
  refine gw_nI (n := 9) pl_7 (by decide) (by decide) dX5_init_7 rfl ?_
  refine gw_pR (n := 12) (by decide) f_X5_9_2.1 (by rw [f_X5_9_2.2]; decide) (fun a => ⟨rfl, rfl⟩) (gk_fin cl_2 rfl rfl) pl_6 (by decide) dX5_init_9 rfl ?_
  refine gw_al0 (n := 13) dX5_init_12 rfl ?_
  refine gw_iconst (n := 14) (nI 0) dX5_init_13 (by decide) rfl ?_
  refine gw_pI (n := 17) f_X5_15_2 pl_6 (by decide) dX5_init_14 rfl ?_
  refine gw_al0 (n := 18) dX5_init_17 rfl ?_
  refine gw_iconst (n := 19) (nI 0) dX5_init_18 (by decide) rfl ?_
  refine gw_pZ (n := 22) (by decide) f_X5_19_2 pl_6 (by decide) dX5_init_19 rfl ?_
  refine gw_al0 (n := 23) dX5_init_22 rfl ?_
  refine gw_iconst (n := 24) (nI 0) dX5_init_23 (by decide) rfl ?_
  refine gw_pI (n := 27) f_X5_23_2 pl_6 (by decide) dX5_init_24 rfl ?_
  refine gw_al0 (n := 28) dX5_init_27 rfl ?_
  refine gw_iconst (n := 29) (nI 0) dX5_init_28 (by decide) rfl ?_
  refine gw_pI (n := 32) f_X5_26_2 pl_6 (by decide) dX5_init_29 rfl ?_
  exact gw_ret rfl dX5_init_32 hq
def gi_X2_init_6 (M : dk_Mem) : dk_Mem := (gi_X5_init_6 M)
set_option maxRecDepth 20000 in
theorem gc_X2_init_6 {d : Nat} {M : dk_Mem} {Q : dk_Mem → Prop} (hq : Q (gi_X2_init_6 M)) : gk_Call 7 8 (d + 2) mX2_init [.ref 6] M Q := by
  refine gk_enter [some (.ref 6)] (by decide) rfl (by decide) (fun _ => rfl) (fun _ => Nat.le_of_ble_eq_true rfl) ?_
  refine gw_al0 (n := 1) dX2_init_0 rfl ?_
  refine gw_cIN0 (n := 4) (nm := 8) s0_X5_init rfl (by decide) in_125 rfl (Nat.le_of_ble_eq_true rfl) (by decide) (by decide) dX2_init_1 rfl (gc_X5_init_6 (d := d + 0) ?_)
  exact gw_ret rfl dX2_init_4 hq
def gi_X5_init_8 (M : dk_Mem) : dk_Mem := (dk_put (dk_put (dk_put (dk_put (dk_put M 8 0 (nI 9)) 8 1 (nI 0)) 8 2 (nI 0)) 8 3 (nI 0)) 8 4 (nI 0))
set_option maxRecDepth 20000 in
theorem gc_X5_init_8 {d : Nat} {M : dk_Mem} {Q : dk_Mem → Prop} (hq : Q (gi_X5_init_8 M)) : gk_Call 9 10 (d + 1) mX5_init [.ref 8] M Q := by
  refine gk_enter [some (.ref 8)] (by decide) rfl (by decide) (fun _ => rfl) (fun _ => Nat.le_of_ble_eq_true rfl) ?_
  refine gw_al0 (n := 1) dX5_init_0 rfl ?_
  refine gw_obj (n := 4) in_127 in_119 in_120 (Nat.le_of_ble_eq_true rfl) dX5_init_1 rfl ?_
  refine gw_al0 (n := 5) dX5_init_4 rfl ?_
  refine gw_bipush (n := 7) (nI 30) dX5_init_5 (by decide) rfl ?_
  refine gw_nI (n := 9) pl_9 (by decide) (by decide) dX5_init_7 rfl ?_
  refine gw_pR (n := 12) (by decide) f_X5_9_1.1 (by rw [f_X5_9_1.2]; decide) (fun a => ⟨rfl, rfl⟩) (gk_fin cl_1 rfl rfl) pl_8 (by decide) dX5_init_9 rfl ?_
  refine gw_al0 (n := 13) dX5_init_12 rfl ?_
  refine gw_iconst (n := 14) (nI 0) dX5_init_13 (by decide) rfl ?_
  refine gw_pI (n := 17) f_X5_15_1 pl_8 (by decide) dX5_init_14 rfl ?_
  refine gw_al0 (n := 18) dX5_init_17 rfl ?_
  refine gw_iconst (n := 19) (nI 0) dX5_init_18 (by decide) rfl ?_
  refine gw_pZ (n := 22) (by decide) f_X5_19_1 pl_8 (by decide) dX5_init_19 rfl ?_
  refine gw_al0 (n := 23) dX5_init_22 rfl ?_
  refine gw_iconst (n := 24) (nI 0) dX5_init_23 (by decide) rfl ?_
  refine gw_pI (n := 27) f_X5_23_1 pl_8 (by decide) dX5_init_24 rfl ?_
  refine gw_al0 (n := 28) dX5_init_27 rfl ?_
  refine gw_iconst (n := 29) (nI 0) dX5_init_28 (by decide) rfl ?_
  refine gw_pI (n := 32) f_X5_26_1 pl_8 (by decide) dX5_init_29 rfl ?_
  exact gw_ret rfl dX5_init_32 hq
def gi_X2_init_8 (M : dk_Mem) : dk_Mem := (gi_X5_init_8 M)
set_option maxRecDepth 20000 in
theorem gc_X2_init_8 {d : Nat} {M : dk_Mem} {Q : dk_Mem → Prop} (hq : Q (gi_X2_init_8 M)) : gk_Call 9 10 (d + 2) mX2_init [.ref 8] M Q := by
  refine gk_enter [some (.ref 8)] (by decide) rfl (by decide) (fun _ => rfl) (fun _ => Nat.le_of_ble_eq_true rfl) ?_
  refine gw_al0 (n := 1) dX2_init_0 rfl ?_
  refine gw_cIN0 (n := 4) (nm := 10) s0_X5_init rfl (by decide) in_125 rfl (Nat.le_of_ble_eq_true rfl) (by decide) (by decide) dX2_init_1 rfl (gc_X5_init_8 (d := d + 0) ?_)
  exact gw_ret rfl dX2_init_4 hq
def gi_X1_init_8 (M : dk_Mem) : dk_Mem := (gi_X2_init_8 M)
set_option maxRecDepth 20000 in
theorem gc_X1_init_8 {d : Nat} {M : dk_Mem} {Q : dk_Mem → Prop} (hq : Q (gi_X1_init_8 M)) : gk_Call 9 10 (d + 3) mX1_init [.ref 8] M Q := by
  refine gk_enter [some (.ref 8)] (by decide) rfl (by decide) (fun _ => rfl) (fun _ => Nat.le_of_ble_eq_true rfl) ?_
  refine gw_al0 (n := 1) dX1_init_0 rfl ?_
  refine gw_cIN0 (n := 4) (nm := 10) s0_X2_init rfl (by decide) in_167 rfl (Nat.le_of_ble_eq_true rfl) (by decide) (by decide) dX1_init_1 rfl (gc_X2_init_8 (d := d + 0) ?_)
  exact gw_ret rfl dX1_init_4 hq
def gi_X5_init_10 (M : dk_Mem) : dk_Mem := (dk_put (dk_put (dk_put (dk_put (dk_put M 10 0 (nI 11)) 10 1 (nI 0)) 10 2 (nI 0)) 10 3 (nI 0)) 10 4 (nI 0))
set_option maxRecDepth 20000 in
theorem gc_X5_init_10 {d : Nat} {M : dk_Mem} {Q : dk_Mem → Prop} (hq : Q (gi_X5_init_10 M)) : gk_Call 11 12 (d + 1) mX5_init [.ref 10] M Q := by
  refine gk_enter [some (.ref 10)] (by decide) rfl (by decide) (fun _ => rfl) (fun _ => Nat.le_of_ble_eq_true rfl) ?_
  refine gw_al0 (n := 1) dX5_init_0 rfl ?_
  refine gw_obj (n := 4) in_127 in_119 in_120 (Nat.le_of_ble_eq_true rfl) dX5_init_1 rfl ?_
  refine gw_al0 (n := 5) dX5_init_4 rfl ?_
  refine gw_bipush (n := 7) (nI 30) dX5_init_5 (by decide) rfl ?_
  refine gw_nI (n := 9) pl_11 (by decide) (by decide) dX5_init_7 rfl ?_
  refine gw_pR (n := 12) (by decide) f_X5_9_3.1 (by rw [f_X5_9_3.2]; decide) (fun a => ⟨rfl, rfl⟩) (gk_fin cl_3 rfl rfl) pl_10 (by decide) dX5_init_9 rfl ?_
  refine gw_al0 (n := 13) dX5_init_12 rfl ?_
  refine gw_iconst (n := 14) (nI 0) dX5_init_13 (by decide) rfl ?_
  refine gw_pI (n := 17) f_X5_15_3 pl_10 (by decide) dX5_init_14 rfl ?_
  refine gw_al0 (n := 18) dX5_init_17 rfl ?_
  refine gw_iconst (n := 19) (nI 0) dX5_init_18 (by decide) rfl ?_
  refine gw_pZ (n := 22) (by decide) f_X5_19_3 pl_10 (by decide) dX5_init_19 rfl ?_
  refine gw_al0 (n := 23) dX5_init_22 rfl ?_
  refine gw_iconst (n := 24) (nI 0) dX5_init_23 (by decide) rfl ?_
  refine gw_pI (n := 27) f_X5_23_3 pl_10 (by decide) dX5_init_24 rfl ?_
  refine gw_al0 (n := 28) dX5_init_27 rfl ?_
  refine gw_iconst (n := 29) (nI 0) dX5_init_28 (by decide) rfl ?_
  refine gw_pI (n := 32) f_X5_26_3 pl_10 (by decide) dX5_init_29 rfl ?_
  exact gw_ret rfl dX5_init_32 hq
def gi_X3_init_10 (M : dk_Mem) : dk_Mem := (gi_X5_init_10 M)
set_option maxRecDepth 20000 in
theorem gc_X3_init_10 {d : Nat} {M : dk_Mem} {Q : dk_Mem → Prop} (hq : Q (gi_X3_init_10 M)) : gk_Call 11 12 (d + 2) mX3_init [.ref 10] M Q := by
  refine gk_enter [some (.ref 10)] (by decide) rfl (by decide) (fun _ => rfl) (fun _ => Nat.le_of_ble_eq_true rfl) ?_
  refine gw_al0 (n := 1) dX3_init_0 rfl ?_
  refine gw_cIN0 (n := 4) (nm := 12) s0_X5_init rfl (by decide) in_125 rfl (Nat.le_of_ble_eq_true rfl) (by decide) (by decide) dX3_init_1 rfl (gc_X5_init_10 (d := d + 0) ?_)
  exact gw_ret rfl dX3_init_4 hq
def gi_X5_init_12 (M : dk_Mem) : dk_Mem := (dk_put (dk_put (dk_put (dk_put (dk_put M 12 0 (nI 13)) 12 1 (nI 0)) 12 2 (nI 0)) 12 3 (nI 0)) 12 4 (nI 0))
set_option maxRecDepth 20000 in
theorem gc_X5_init_12 {d : Nat} {M : dk_Mem} {Q : dk_Mem → Prop} (hq : Q (gi_X5_init_12 M)) : gk_Call 13 14 (d + 1) mX5_init [.ref 12] M Q := by
  refine gk_enter [some (.ref 12)] (by decide) rfl (by decide) (fun _ => rfl) (fun _ => Nat.le_of_ble_eq_true rfl) ?_
  refine gw_al0 (n := 1) dX5_init_0 rfl ?_
  refine gw_obj (n := 4) in_127 in_119 in_120 (Nat.le_of_ble_eq_true rfl) dX5_init_1 rfl ?_
  refine gw_al0 (n := 5) dX5_init_4 rfl ?_
  refine gw_bipush (n := 7) (nI 30) dX5_init_5 (by decide) rfl ?_
  refine gw_nI (n := 9) pl_13 (by decide) (by decide) dX5_init_7 rfl ?_
  refine gw_pR (n := 12) (by decide) f_X5_9_9.1 (by rw [f_X5_9_9.2]; decide) (fun a => ⟨rfl, rfl⟩) (gk_fin cl_9 rfl rfl) pl_12 (by decide) dX5_init_9 rfl ?_
  refine gw_al0 (n := 13) dX5_init_12 rfl ?_
  refine gw_iconst (n := 14) (nI 0) dX5_init_13 (by decide) rfl ?_
  refine gw_pI (n := 17) f_X5_15_9 pl_12 (by decide) dX5_init_14 rfl ?_
  refine gw_al0 (n := 18) dX5_init_17 rfl ?_
  refine gw_iconst (n := 19) (nI 0) dX5_init_18 (by decide) rfl ?_
  refine gw_pZ (n := 22) (by decide) f_X5_19_9 pl_12 (by decide) dX5_init_19 rfl ?_
  refine gw_al0 (n := 23) dX5_init_22 rfl ?_
  refine gw_iconst (n := 24) (nI 0) dX5_init_23 (by decide) rfl ?_
  refine gw_pI (n := 27) f_X5_23_9 pl_12 (by decide) dX5_init_24 rfl ?_
  refine gw_al0 (n := 28) dX5_init_27 rfl ?_
  refine gw_iconst (n := 29) (nI 0) dX5_init_28 (by decide) rfl ?_
  refine gw_pI (n := 32) f_X5_26_9 pl_12 (by decide) dX5_init_29 rfl ?_
  exact gw_ret rfl dX5_init_32 hq
def gi_X3_init_12 (M : dk_Mem) : dk_Mem := (gi_X5_init_12 M)
set_option maxRecDepth 20000 in
theorem gc_X3_init_12 {d : Nat} {M : dk_Mem} {Q : dk_Mem → Prop} (hq : Q (gi_X3_init_12 M)) : gk_Call 13 14 (d + 2) mX3_init [.ref 12] M Q := by
  refine gk_enter [some (.ref 12)] (by decide) rfl (by decide) (fun _ => rfl) (fun _ => Nat.le_of_ble_eq_true rfl) ?_
  refine gw_al0 (n := 1) dX3_init_0 rfl ?_
  refine gw_cIN0 (n := 4) (nm := 14) s0_X5_init rfl (by decide) in_125 rfl (Nat.le_of_ble_eq_true rfl) (by decide) (by decide) dX3_init_1 rfl (gc_X5_init_12 (d := d + 0) ?_)
  exact gw_ret rfl dX3_init_4 hq
def gi_X9_init_12 (M : dk_Mem) : dk_Mem := (gi_X3_init_12 M)
set_option maxRecDepth 20000 in
theorem gc_X9_init_12 {d : Nat} {M : dk_Mem} {Q : dk_Mem → Prop} (hq : Q (gi_X9_init_12 M)) : gk_Call 13 14 (d + 3) mX9_init [.ref 12] M Q := by
  refine gk_enter [some (.ref 12)] (by decide) rfl (by decide) (fun _ => rfl) (fun _ => Nat.le_of_ble_eq_true rfl) ?_
  refine gw_al0 (n := 1) dX9_init_0 rfl ?_
  refine gw_cIN0 (n := 4) (nm := 14) s0_X3_init rfl (by decide) in_191 rfl (Nat.le_of_ble_eq_true rfl) (by decide) (by decide) dX9_init_1 rfl (gc_X3_init_12 (d := d + 0) ?_)
  exact gw_ret rfl dX9_init_4 hq
def gi_X4_init_22 (M : dk_Mem) : dk_Mem := (dk_put (dk_put (dk_put M 22 0 (nI 0)) 22 1 (nI 0)) 22 2 (nI 23))
set_option maxRecDepth 20000 in
theorem gc_X4_init_22 {d : Nat} {M : dk_Mem} {Q : dk_Mem → Prop} (hq : Q (gi_X4_init_22 M)) : gk_Call 23 24 (d + 1) mX4_init [.ref 22] M Q := by
  refine gk_enter [some (.ref 22)] (by decide) rfl (by decide) (fun _ => rfl) (fun _ => Nat.le_of_ble_eq_true rfl) ?_
  refine gw_al0 (n := 1) dX4_init_0 rfl ?_
  refine gw_obj (n := 4) in_223 in_119 in_120 (Nat.le_of_ble_eq_true rfl) dX4_init_1 rfl ?_
  refine gw_al0 (n := 5) dX4_init_4 rfl ?_
  refine gw_iconst (n := 6) (nI 0) dX4_init_5 (by decide) rfl ?_
  refine gw_pI (n := 9) f_X4_9_4 pl_22 (by decide) dX4_init_6 rfl ?_
  refine gw_al0 (n := 10) dX4_init_9 rfl ?_
  refine gw_iconst (n := 11) (nI 0) dX4_init_10 (by decide) rfl ?_
  refine gw_pI (n := 14) f_X4_15_4 pl_22 (by decide) dX4_init_11 rfl ?_
  refine gw_al0 (n := 15) dX4_init_14 rfl ?_
  refine gw_bipush (n := 17) (nI 6) dX4_init_15 (by decide) rfl ?_
  refine gw_nI (n := 19) pl_23 (by decide) (by decide) dX4_init_17 rfl ?_
  refine gw_pR (n := 22) (by decide) f_X4_18_4.1 (by rw [f_X4_18_4.2]; decide) (fun a => ⟨rfl, rfl⟩) (gk_fin cl_4 rfl rfl) pl_22 (by decide) dX4_init_19 rfl ?_
  exact gw_ret rfl dX4_init_22 hq
def gi_X8_init_24 (M : dk_Mem) : dk_Mem := (dk_put (dk_put (dk_put (dk_put (dk_put (dk_put (dk_put (dk_put (dk_put (dk_put M 24 0 (nI 0)) 24 1 (nI 25)) 24 2 (nI 26)) 24 3 (nI 27)) 24 4 (nI 28)) 24 5 (nI 0)) 24 6 (nI 29)) 24 7 (nI 30)) 24 8 (nI 31)) 24 9 (nI 0))
set_option maxRecDepth 20000 in
theorem gc_X8_init_24 {d : Nat} {M : dk_Mem} {Q : dk_Mem → Prop} (hq : Q (gi_X8_init_24 M)) : gk_Call 25 32 (d + 1) mX8_init [.ref 24] M Q := by
  refine gk_enter [some (.ref 24)] (by decide) rfl (by decide) (fun _ => rfl) (fun _ => Nat.le_of_ble_eq_true rfl) ?_
  refine gw_al0 (n := 1) dX8_init_0 rfl ?_
  refine gw_obj (n := 4) in_245 in_119 in_120 (Nat.le_of_ble_eq_true rfl) dX8_init_1 rfl ?_
  refine gw_al0 (n := 5) dX8_init_4 rfl ?_
  refine gw_iconst (n := 6) (nI 0) dX8_init_5 (by decide) rfl ?_
  refine gw_pI (n := 9) f_X8_9_8 pl_24 (by decide) dX8_init_6 rfl ?_
  refine gw_al0 (n := 10) dX8_init_9 rfl ?_
  refine gw_bipush (n := 12) (nI 8) dX8_init_10 (by decide) rfl ?_
  refine gw_nI (n := 14) pl_25 (by decide) (by decide) dX8_init_12 rfl ?_
  refine gw_pR (n := 17) (by decide) f_X8_15_8.1 (by rw [f_X8_15_8.2]; decide) (fun a => ⟨rfl, rfl⟩) (gk_fin cl_8 rfl rfl) pl_24 (by decide) dX8_init_14 rfl ?_
  refine gw_al0 (n := 18) dX8_init_17 rfl ?_
  refine gw_bipush (n := 20) (nI 8) dX8_init_18 (by decide) rfl ?_
  refine gw_nI (n := 22) pl_26 (by decide) (by decide) dX8_init_20 rfl ?_
  refine gw_pR (n := 25) (by decide) f_X8_19_8.1 (by rw [f_X8_19_8.2]; decide) (fun a => ⟨rfl, rfl⟩) (gk_fin cl_8 rfl rfl) pl_24 (by decide) dX8_init_22 rfl ?_
  refine gw_al0 (n := 26) dX8_init_25 rfl ?_
  refine gw_bipush (n := 28) (nI 9) dX8_init_26 (by decide) rfl ?_
  refine gw_nI (n := 30) pl_27 (by decide) (by decide) dX8_init_28 rfl ?_
  refine gw_pR (n := 33) (by decide) f_X8_22_8.1 (by rw [f_X8_22_8.2]; decide) (fun a => ⟨rfl, rfl⟩) (gk_fin cl_8 rfl rfl) pl_24 (by decide) dX8_init_30 rfl ?_
  refine gw_al0 (n := 34) dX8_init_33 rfl ?_
  refine gw_sipush (n := 37) (nI 200) dX8_init_34 (by decide) rfl ?_
  refine gw_nI (n := 39) pl_28 (by decide) (by decide) dX8_init_37 rfl ?_
  refine gw_pR (n := 42) (by decide) f_X8_25_8.1 (by rw [f_X8_25_8.2]; decide) (fun a => ⟨rfl, rfl⟩) (gk_fin cl_8 rfl rfl) pl_24 (by decide) dX8_init_39 rfl ?_
  refine gw_al0 (n := 43) dX8_init_42 rfl ?_
  refine gw_iconst (n := 44) (nI 0) dX8_init_43 (by decide) rfl ?_
  refine gw_pI (n := 47) f_X8_28_8 pl_24 (by decide) dX8_init_44 rfl ?_
  refine gw_al0 (n := 48) dX8_init_47 rfl ?_
  refine gw_iconst (n := 49) (nI 5) dX8_init_48 (by decide) rfl ?_
  refine gw_nI (n := 51) pl_29 (by decide) (by decide) dX8_init_49 rfl ?_
  refine gw_pR (n := 54) (by decide) f_X8_31_8.1 (by rw [f_X8_31_8.2]; decide) (fun a => ⟨rfl, rfl⟩) (gk_fin cl_8 rfl rfl) pl_24 (by decide) dX8_init_51 rfl ?_
  refine gw_al0 (n := 55) dX8_init_54 rfl ?_
  refine gw_sipush (n := 58) (nI 201) dX8_init_55 (by decide) rfl ?_
  refine gw_nI (n := 60) pl_30 (by decide) (by decide) dX8_init_58 rfl ?_
  refine gw_pR (n := 63) (by decide) f_X8_34_8.1 (by rw [f_X8_34_8.2]; decide) (fun a => ⟨rfl, rfl⟩) (gk_fin cl_8 rfl rfl) pl_24 (by decide) dX8_init_60 rfl ?_
  refine gw_al0 (n := 64) dX8_init_63 rfl ?_
  refine gw_sipush (n := 67) (nI 201) dX8_init_64 (by decide) rfl ?_
  refine gw_nI (n := 69) pl_31 (by decide) (by decide) dX8_init_67 rfl ?_
  refine gw_pR (n := 72) (by decide) f_X8_37_8.1 (by rw [f_X8_37_8.2]; decide) (fun a => ⟨rfl, rfl⟩) (gk_fin cl_8 rfl rfl) pl_24 (by decide) dX8_init_69 rfl ?_
  refine gw_al0 (n := 73) dX8_init_72 rfl ?_
  refine gw_iconst (n := 74) (nI 0) dX8_init_73 (by decide) rfl ?_
  refine gw_pI (n := 77) f_X8_40_8 pl_24 (by decide) dX8_init_74 rfl ?_
  exact gw_ret rfl dX8_init_77 hq
def gi_X7_init_32 (M : dk_Mem) : dk_Mem := (dk_put (dk_put (dk_put (dk_put (dk_put (dk_put (dk_put (dk_put (dk_put (dk_put M 32 0 (nI 0)) 32 1 (nI 33)) 32 2 (nI 34)) 32 3 (nI 35)) 32 4 (nI 36)) 32 5 (nI 0)) 32 6 (nI 0)) 32 7 (nI 0)) 32 8 (nI 0)) 32 9 (nI 0))
set_option maxRecDepth 20000 in
theorem gc_X7_init_32 {d : Nat} {M : dk_Mem} {Q : dk_Mem → Prop} (hq : Q (gi_X7_init_32 M)) : gk_Call 33 37 (d + 1) mX7_init [.ref 32] M Q := by
  refine gk_enter [some (.ref 32)] (by decide) rfl (by decide) (fun _ => rfl) (fun _ => Nat.le_of_ble_eq_true rfl) ?_
  refine gw_al0 (n := 1) dX7_init_0 rfl ?_
  refine gw_obj (n := 4) in_286 in_119 in_120 (Nat.le_of_ble_eq_true rfl) dX7_init_1 rfl ?_
  refine gw_al0 (n := 5) dX7_init_4 rfl ?_
  refine gw_iconst (n := 6) (nI 0) dX7_init_5 (by decide) rfl ?_
  refine gw_pI (n := 9) f_X7_9_7 pl_32 (by decide) dX7_init_6 rfl ?_
  refine gw_al0 (n := 10) dX7_init_9 rfl ?_
  refine gw_bipush (n := 12) (nI 6) dX7_init_10 (by decide) rfl ?_
  refine gw_nI (n := 14) pl_33 (by decide) (by decide) dX7_init_12 rfl ?_
  refine gw_pR (n := 17) (by decide) f_X7_15_7.1 (by rw [f_X7_15_7.2]; decide) (fun a => ⟨rfl, rfl⟩) (gk_fin cl_7 rfl rfl) pl_32 (by decide) dX7_init_14 rfl ?_
  refine gw_al0 (n := 18) dX7_init_17 rfl ?_
  refine gw_bipush (n := 20) (nI 6) dX7_init_18 (by decide) rfl ?_
  refine gw_nI (n := 22) pl_34 (by decide) (by decide) dX7_init_20 rfl ?_
  refine gw_pR (n := 25) (by decide) f_X7_19_7.1 (by rw [f_X7_19_7.2]; decide) (fun a => ⟨rfl, rfl⟩) (gk_fin cl_7 rfl rfl) pl_32 (by decide) dX7_init_22 rfl ?_
  refine gw_al0 (n := 26) dX7_init_25 rfl ?_
  refine gw_bipush (n := 28) (nI 6) dX7_init_26 (by decide) rfl ?_
  refine gw_nI (n := 30) pl_35 (by decide) (by decide) dX7_init_28 rfl ?_
  refine gw_pR (n := 33) (by decide) f_X7_22_7.1 (by rw [f_X7_22_7.2]; decide) (fun a => ⟨rfl, rfl⟩) (gk_fin cl_7 rfl rfl) pl_32 (by decide) dX7_init_30 rfl ?_
  refine gw_al0 (n := 34) dX7_init_33 rfl ?_
  refine gw_bipush (n := 36) (nI 6) dX7_init_34 (by decide) rfl ?_
  refine gw_nI (n := 38) pl_36 (by decide) (by decide) dX7_init_36 rfl ?_
  refine gw_pR (n := 41) (by decide) f_X7_25_7.1 (by rw [f_X7_25_7.2]; decide) (fun a => ⟨rfl, rfl⟩) (gk_fin cl_7 rfl rfl) pl_32 (by decide) dX7_init_38 rfl ?_
  refine gw_al0 (n := 42) dX7_init_41 rfl ?_
  refine gw_iconst (n := 43) (nI 0) dX7_init_42 (by decide) rfl ?_
  refine gw_pI (n := 46) f_X7_28_7 pl_32 (by decide) dX7_init_43 rfl ?_
  refine gw_al0 (n := 47) dX7_init_46 rfl ?_
  refine gw_iconst (n := 48) (nI 0) dX7_init_47 (by decide) rfl ?_
  refine gw_pI (n := 51) f_X7_31_7 pl_32 (by decide) dX7_init_48 rfl ?_
  refine gw_al0 (n := 52) dX7_init_51 rfl ?_
  refine gw_iconst (n := 53) (nI 0) dX7_init_52 (by decide) rfl ?_
  refine gw_pI (n := 56) f_X7_34_7 pl_32 (by decide) dX7_init_53 rfl ?_
  refine gw_al0 (n := 57) dX7_init_56 rfl ?_
  refine gw_iconst (n := 58) (nI 0) dX7_init_57 (by decide) rfl ?_
  refine gw_pI (n := 61) f_X7_37_7 pl_32 (by decide) dX7_init_58 rfl ?_
  refine gw_al0 (n := 62) dX7_init_61 rfl ?_
  refine gw_iconst (n := 63) (nI 0) dX7_init_62 (by decide) rfl ?_
  refine gw_pI (n := 66) f_X7_40_7 pl_32 (by decide) dX7_init_63 rfl ?_
  exact gw_ret rfl dX7_init_66 hq
def gi_X10_init_14 (M : dk_Mem) : dk_Mem := (dk_fl (dk_put (dk_put (gi_X7_init_32 (dk_put (gi_X8_init_24 (dk_put (dk_put (dk_put (dk_put (gi_X4_init_22 (dk_put (dk_put (dk_put (dk_put (dk_put (dk_put (dk_put (dk_put M 14 1 (nI 0)) 14 2 (nI 15)) 14 3 (nI 16)) 14 4 (nI 17)) 14 5 (nI 18)) 14 6 (nI 19)) 14 7 (nI 20)) 14 8 (nI 21))) 14 9 (nI 22)) 14 10 (nI 12)) 14 11 (nI 0)) 14 12 (nI 1))) 14 13 (nI 24))) 14 14 (nI 32)) 14 0 (nI 1)) 19 (nI 6) 16)
set_option maxRecDepth 20000 in
theorem gc_X10_init_14 {d : Nat} {M : dk_Mem} {Q : dk_Mem → Prop} (hq : Q (gi_X10_init_14 M)) : gk_Call 15 37 (d + 2) mX10_init [.ref 14, .ref 1] M Q := by
  refine gk_enter [some (.ref 14), some (.ref 1)] (by decide) rfl (by decide) (fun _ => rfl) (fun _ => Nat.le_of_ble_eq_true rfl) ?_
  refine gw_al0 (n := 1) dX10_init_0 rfl ?_
  refine gw_obj (n := 4) in_217 in_119 in_120 (Nat.le_of_ble_eq_true rfl) dX10_init_1 rfl ?_
  refine gw_al0 (n := 5) dX10_init_4 rfl ?_
  refine gw_iconst (n := 6) (nI 0) dX10_init_5 (by decide) rfl ?_
  refine gw_pI (n := 9) f_X10_9_10 pl_14 (by decide) dX10_init_6 rfl ?_
  refine gw_al0 (n := 10) dX10_init_9 rfl ?_
  refine gw_bipush (n := 12) (nI 6) dX10_init_10 (by decide) rfl ?_
  refine gw_nI (n := 14) pl_15 (by decide) (by decide) dX10_init_12 rfl ?_
  refine gw_pR (n := 17) (by decide) f_X10_15_10.1 (by rw [f_X10_15_10.2]; decide) (fun a => ⟨rfl, rfl⟩) (gk_fin cl_10 rfl rfl) pl_14 (by decide) dX10_init_14 rfl ?_
  refine gw_al0 (n := 18) dX10_init_17 rfl ?_
  refine gw_bipush (n := 20) (nI 6) dX10_init_18 (by decide) rfl ?_
  refine gw_nI (n := 22) pl_16 (by decide) (by decide) dX10_init_20 rfl ?_
  refine gw_pR (n := 25) (by decide) f_X10_19_10.1 (by rw [f_X10_19_10.2]; decide) (fun a => ⟨rfl, rfl⟩) (gk_fin cl_10 rfl rfl) pl_14 (by decide) dX10_init_22 rfl ?_
  refine gw_al0 (n := 26) dX10_init_25 rfl ?_
  refine gw_bipush (n := 28) (nI 6) dX10_init_26 (by decide) rfl ?_
  refine gw_nI (n := 30) pl_17 (by decide) (by decide) dX10_init_28 rfl ?_
  refine gw_pR (n := 33) (by decide) f_X10_22_10.1 (by rw [f_X10_22_10.2]; decide) (fun a => ⟨rfl, rfl⟩) (gk_fin cl_10 rfl rfl) pl_14 (by decide) dX10_init_30 rfl ?_
  refine gw_al0 (n := 34) dX10_init_33 rfl ?_
  refine gw_bipush (n := 36) (nI 6) dX10_init_34 (by decide) rfl ?_
  refine gw_nI (n := 38) pl_18 (by decide) (by decide) dX10_init_36 rfl ?_
  refine gw_pR (n := 41) (by decide) f_X10_25_10.1 (by rw [f_X10_25_10.2]; decide) (fun a => ⟨rfl, rfl⟩) (gk_fin cl_10 rfl rfl) pl_14 (by decide) dX10_init_38 rfl ?_
  refine gw_al0 (n := 42) dX10_init_41 rfl ?_
  refine gw_bipush (n := 44) (nI 16) dX10_init_42 (by decide) rfl ?_
  refine gw_nI (n := 46) pl_19 (by decide) (by decide) dX10_init_44 rfl ?_
  refine gw_pR (n := 49) (by decide) f_X10_28_10.1 (by rw [f_X10_28_10.2]; decide) (fun a => ⟨rfl, rfl⟩) (gk_fin cl_10 rfl rfl) pl_14 (by decide) dX10_init_46 rfl ?_
  refine gw_al0 (n := 50) dX10_init_49 rfl ?_
  refine gw_bipush (n := 52) (nI 6) dX10_init_50 (by decide) rfl ?_
  refine gw_nI (n := 54) pl_20 (by decide) (by decide) dX10_init_52 rfl ?_
  refine gw_pR (n := 57) (by decide) f_X10_31_10.1 (by rw [f_X10_31_10.2]; decide) (fun a => ⟨rfl, rfl⟩) (gk_fin cl_10 rfl rfl) pl_14 (by decide) dX10_init_54 rfl ?_
  refine gw_al0 (n := 58) dX10_init_57 rfl ?_
  refine gw_bipush (n := 60) (nI 6) dX10_init_58 (by decide) rfl ?_
  refine gw_nI (n := 62) pl_21 (by decide) (by decide) dX10_init_60 rfl ?_
  refine gw_pR (n := 65) (by decide) f_X10_34_10.1 (by rw [f_X10_34_10.2]; decide) (fun a => ⟨rfl, rfl⟩) (gk_fin cl_10 rfl rfl) pl_14 (by decide) dX10_init_62 rfl ?_
  refine gw_al0 (n := 66) dX10_init_65 rfl ?_
  refine gw_new (n := 69) cl_4 pl_22.1 (by decide) gk_df_4 in_218 in_219 in_100 dX10_init_66 rfl ?_
  refine gw_dup (n := 70) rfl dX10_init_69 rfl ?_
  refine gw_cIN0 (n := 73) (nm := 24) s0_X4_init rfl (by decide) in_221 rfl (Nat.le_of_ble_eq_true rfl) (by decide) (by decide) dX10_init_70 rfl (gc_X4_init_22 (d := d + 0) ?_)
  refine gw_pR (n := 76) (by decide) f_X10_40_10.1 (by rw [f_X10_40_10.2]; decide) (fun a => ⟨rfl, rfl⟩) (gk_fin cl_10 rfl rfl) pl_14 (by decide) dX10_init_73 rfl ?_
  refine gw_al0 (n := 77) dX10_init_76 rfl ?_
  refine gw_bipush (n := 79) (nI 12) dX10_init_77 (by decide) rfl ?_
  refine gw_pI (n := 82) f_X10_44_10 pl_14 (by decide) dX10_init_79 rfl ?_
  refine gw_al0 (n := 83) dX10_init_82 rfl ?_
  refine gw_iconst (n := 84) (nI 0) dX10_init_83 (by decide) rfl ?_
  refine gw_pI (n := 87) f_X10_47_10 pl_14 (by decide) dX10_init_84 rfl ?_
  refine gw_al0 (n := 88) dX10_init_87 rfl ?_
  refine gw_iconst (n := 89) (nI 1) dX10_init_88 (by decide) rfl ?_
  refine gw_pI (n := 92) f_X10_50_10 pl_14 (by decide) dX10_init_89 rfl ?_
  refine gw_al0 (n := 93) dX10_init_92 rfl ?_
  refine gw_new (n := 96) cl_8 pl_24.1 (by decide) gk_df_8 in_240 in_241 in_101 dX10_init_93 rfl ?_
  refine gw_dup (n := 97) rfl dX10_init_96 rfl ?_
  refine gw_cIN0 (n := 100) (nm := 32) s0_X8_init rfl (by decide) in_243 rfl (Nat.le_of_ble_eq_true rfl) (by decide) (by decide) dX10_init_97 rfl (gc_X8_init_24 (d := d + 0) ?_)
  refine gw_pR (n := 103) (by decide) f_X10_56_10.1 (by rw [f_X10_56_10.2]; decide) (fun a => ⟨rfl, rfl⟩) (fun h => by cases h) pl_14 (by decide) dX10_init_100 rfl ?_
  refine gw_al0 (n := 104) dX10_init_103 rfl ?_
  refine gw_new (n := 107) cl_7 pl_32.1 (by decide) gk_df_7 in_281 in_282 in_102 dX10_init_104 rfl ?_
  refine gw_dup (n := 108) rfl dX10_init_107 rfl ?_
  refine gw_cIN0 (n := 111) (nm := 37) s0_X7_init rfl (by decide) in_284 rfl (Nat.le_of_ble_eq_true rfl) (by decide) (by decide) dX10_init_108 rfl (gc_X7_init_32 (d := d + 0) ?_)
  refine gw_pR (n := 114) (by decide) f_X10_63_10.1 (by rw [f_X10_63_10.2]; decide) (fun a => ⟨rfl, rfl⟩) (gk_fin cl_10 rfl rfl) pl_14 (by decide) dX10_init_111 rfl ?_
  refine gw_al0 (n := 115) dX10_init_114 rfl ?_
  refine gw_al1 (n := 116) dX10_init_115 rfl ?_
  refine gw_pR (n := 119) (by decide) f_X10_67_10.1 (by rw [f_X10_67_10.2]; decide) (fun a => ⟨rfl, rfl⟩) (gk_fin cl_10 rfl rfl) pl_14 (by decide) dX10_init_116 rfl ?_
  refine gw_al0 (n := 120) dX10_init_119 rfl ?_
  refine gw_gR (n := 123) f_X10_28_10.1 (by rw [f_X10_28_10.2]; decide) pl_14 (by decide) (dk_ref_i (show _ = nI 19 from rfl) (by decide)) dX10_init_120 rfl ?_
  refine gw_bipush (n := 125) (nI 6) dX10_init_123 (by decide) rfl ?_
  refine gw_cS2 (n := 128) s0_J7_fill_53178 k_X10_71 rfl (Nat.le_of_ble_eq_true rfl) (by decide) dX10_init_125 rfl (gk_fill pl_19 (by decide) (by decide) (by decide) ?_)
  exact gw_ret rfl dX10_init_128 hq
def gi_X4_init_45 (M : dk_Mem) : dk_Mem := (dk_put (dk_put (dk_put M 45 0 (nI 0)) 45 1 (nI 0)) 45 2 (nI 46))
set_option maxRecDepth 20000 in
theorem gc_X4_init_45 {d : Nat} {M : dk_Mem} {Q : dk_Mem → Prop} (hq : Q (gi_X4_init_45 M)) : gk_Call 46 47 (d + 1) mX4_init [.ref 45] M Q := by
  refine gk_enter [some (.ref 45)] (by decide) rfl (by decide) (fun _ => rfl) (fun _ => Nat.le_of_ble_eq_true rfl) ?_
  refine gw_al0 (n := 1) dX4_init_0 rfl ?_
  refine gw_obj (n := 4) in_223 in_119 in_120 (Nat.le_of_ble_eq_true rfl) dX4_init_1 rfl ?_
  refine gw_al0 (n := 5) dX4_init_4 rfl ?_
  refine gw_iconst (n := 6) (nI 0) dX4_init_5 (by decide) rfl ?_
  refine gw_pI (n := 9) f_X4_9_4 pl_45 (by decide) dX4_init_6 rfl ?_
  refine gw_al0 (n := 10) dX4_init_9 rfl ?_
  refine gw_iconst (n := 11) (nI 0) dX4_init_10 (by decide) rfl ?_
  refine gw_pI (n := 14) f_X4_15_4 pl_45 (by decide) dX4_init_11 rfl ?_
  refine gw_al0 (n := 15) dX4_init_14 rfl ?_
  refine gw_bipush (n := 17) (nI 6) dX4_init_15 (by decide) rfl ?_
  refine gw_nI (n := 19) pl_46 (by decide) (by decide) dX4_init_17 rfl ?_
  refine gw_pR (n := 22) (by decide) f_X4_18_4.1 (by rw [f_X4_18_4.2]; decide) (fun a => ⟨rfl, rfl⟩) (gk_fin cl_4 rfl rfl) pl_45 (by decide) dX4_init_19 rfl ?_
  exact gw_ret rfl dX4_init_22 hq
def gi_X8_init_47 (M : dk_Mem) : dk_Mem := (dk_put (dk_put (dk_put (dk_put (dk_put (dk_put (dk_put (dk_put (dk_put (dk_put M 47 0 (nI 0)) 47 1 (nI 48)) 47 2 (nI 49)) 47 3 (nI 50)) 47 4 (nI 51)) 47 5 (nI 0)) 47 6 (nI 52)) 47 7 (nI 53)) 47 8 (nI 54)) 47 9 (nI 0))
set_option maxRecDepth 20000 in
theorem gc_X8_init_47 {d : Nat} {M : dk_Mem} {Q : dk_Mem → Prop} (hq : Q (gi_X8_init_47 M)) : gk_Call 48 55 (d + 1) mX8_init [.ref 47] M Q := by
  refine gk_enter [some (.ref 47)] (by decide) rfl (by decide) (fun _ => rfl) (fun _ => Nat.le_of_ble_eq_true rfl) ?_
  refine gw_al0 (n := 1) dX8_init_0 rfl ?_
  refine gw_obj (n := 4) in_245 in_119 in_120 (Nat.le_of_ble_eq_true rfl) dX8_init_1 rfl ?_
  refine gw_al0 (n := 5) dX8_init_4 rfl ?_
  refine gw_iconst (n := 6) (nI 0) dX8_init_5 (by decide) rfl ?_
  refine gw_pI (n := 9) f_X8_9_8 pl_47 (by decide) dX8_init_6 rfl ?_
  refine gw_al0 (n := 10) dX8_init_9 rfl ?_
  refine gw_bipush (n := 12) (nI 8) dX8_init_10 (by decide) rfl ?_
  refine gw_nI (n := 14) pl_48 (by decide) (by decide) dX8_init_12 rfl ?_
  refine gw_pR (n := 17) (by decide) f_X8_15_8.1 (by rw [f_X8_15_8.2]; decide) (fun a => ⟨rfl, rfl⟩) (gk_fin cl_8 rfl rfl) pl_47 (by decide) dX8_init_14 rfl ?_
  refine gw_al0 (n := 18) dX8_init_17 rfl ?_
  refine gw_bipush (n := 20) (nI 8) dX8_init_18 (by decide) rfl ?_
  refine gw_nI (n := 22) pl_49 (by decide) (by decide) dX8_init_20 rfl ?_
  refine gw_pR (n := 25) (by decide) f_X8_19_8.1 (by rw [f_X8_19_8.2]; decide) (fun a => ⟨rfl, rfl⟩) (gk_fin cl_8 rfl rfl) pl_47 (by decide) dX8_init_22 rfl ?_
  refine gw_al0 (n := 26) dX8_init_25 rfl ?_
  refine gw_bipush (n := 28) (nI 9) dX8_init_26 (by decide) rfl ?_
  refine gw_nI (n := 30) pl_50 (by decide) (by decide) dX8_init_28 rfl ?_
  refine gw_pR (n := 33) (by decide) f_X8_22_8.1 (by rw [f_X8_22_8.2]; decide) (fun a => ⟨rfl, rfl⟩) (gk_fin cl_8 rfl rfl) pl_47 (by decide) dX8_init_30 rfl ?_
  refine gw_al0 (n := 34) dX8_init_33 rfl ?_
  refine gw_sipush (n := 37) (nI 200) dX8_init_34 (by decide) rfl ?_
  refine gw_nI (n := 39) pl_51 (by decide) (by decide) dX8_init_37 rfl ?_
  refine gw_pR (n := 42) (by decide) f_X8_25_8.1 (by rw [f_X8_25_8.2]; decide) (fun a => ⟨rfl, rfl⟩) (gk_fin cl_8 rfl rfl) pl_47 (by decide) dX8_init_39 rfl ?_
  refine gw_al0 (n := 43) dX8_init_42 rfl ?_
  refine gw_iconst (n := 44) (nI 0) dX8_init_43 (by decide) rfl ?_
  refine gw_pI (n := 47) f_X8_28_8 pl_47 (by decide) dX8_init_44 rfl ?_
  refine gw_al0 (n := 48) dX8_init_47 rfl ?_
  refine gw_iconst (n := 49) (nI 5) dX8_init_48 (by decide) rfl ?_
  refine gw_nI (n := 51) pl_52 (by decide) (by decide) dX8_init_49 rfl ?_
  refine gw_pR (n := 54) (by decide) f_X8_31_8.1 (by rw [f_X8_31_8.2]; decide) (fun a => ⟨rfl, rfl⟩) (gk_fin cl_8 rfl rfl) pl_47 (by decide) dX8_init_51 rfl ?_
  refine gw_al0 (n := 55) dX8_init_54 rfl ?_
  refine gw_sipush (n := 58) (nI 201) dX8_init_55 (by decide) rfl ?_
  refine gw_nI (n := 60) pl_53 (by decide) (by decide) dX8_init_58 rfl ?_
  refine gw_pR (n := 63) (by decide) f_X8_34_8.1 (by rw [f_X8_34_8.2]; decide) (fun a => ⟨rfl, rfl⟩) (gk_fin cl_8 rfl rfl) pl_47 (by decide) dX8_init_60 rfl ?_
  refine gw_al0 (n := 64) dX8_init_63 rfl ?_
  refine gw_sipush (n := 67) (nI 201) dX8_init_64 (by decide) rfl ?_
  refine gw_nI (n := 69) pl_54 (by decide) (by decide) dX8_init_67 rfl ?_
  refine gw_pR (n := 72) (by decide) f_X8_37_8.1 (by rw [f_X8_37_8.2]; decide) (fun a => ⟨rfl, rfl⟩) (gk_fin cl_8 rfl rfl) pl_47 (by decide) dX8_init_69 rfl ?_
  refine gw_al0 (n := 73) dX8_init_72 rfl ?_
  refine gw_iconst (n := 74) (nI 0) dX8_init_73 (by decide) rfl ?_
  refine gw_pI (n := 77) f_X8_40_8 pl_47 (by decide) dX8_init_74 rfl ?_
  exact gw_ret rfl dX8_init_77 hq
def gi_X7_init_55 (M : dk_Mem) : dk_Mem := (dk_put (dk_put (dk_put (dk_put (dk_put (dk_put (dk_put (dk_put (dk_put (dk_put M 55 0 (nI 0)) 55 1 (nI 56)) 55 2 (nI 57)) 55 3 (nI 58)) 55 4 (nI 59)) 55 5 (nI 0)) 55 6 (nI 0)) 55 7 (nI 0)) 55 8 (nI 0)) 55 9 (nI 0))
set_option maxRecDepth 20000 in
theorem gc_X7_init_55 {d : Nat} {M : dk_Mem} {Q : dk_Mem → Prop} (hq : Q (gi_X7_init_55 M)) : gk_Call 56 60 (d + 1) mX7_init [.ref 55] M Q := by
  refine gk_enter [some (.ref 55)] (by decide) rfl (by decide) (fun _ => rfl) (fun _ => Nat.le_of_ble_eq_true rfl) ?_
  refine gw_al0 (n := 1) dX7_init_0 rfl ?_
  refine gw_obj (n := 4) in_286 in_119 in_120 (Nat.le_of_ble_eq_true rfl) dX7_init_1 rfl ?_
  refine gw_al0 (n := 5) dX7_init_4 rfl ?_
  refine gw_iconst (n := 6) (nI 0) dX7_init_5 (by decide) rfl ?_
  refine gw_pI (n := 9) f_X7_9_7 pl_55 (by decide) dX7_init_6 rfl ?_
  refine gw_al0 (n := 10) dX7_init_9 rfl ?_
  refine gw_bipush (n := 12) (nI 6) dX7_init_10 (by decide) rfl ?_
  refine gw_nI (n := 14) pl_56 (by decide) (by decide) dX7_init_12 rfl ?_
  refine gw_pR (n := 17) (by decide) f_X7_15_7.1 (by rw [f_X7_15_7.2]; decide) (fun a => ⟨rfl, rfl⟩) (gk_fin cl_7 rfl rfl) pl_55 (by decide) dX7_init_14 rfl ?_
  refine gw_al0 (n := 18) dX7_init_17 rfl ?_
  refine gw_bipush (n := 20) (nI 6) dX7_init_18 (by decide) rfl ?_
  refine gw_nI (n := 22) pl_57 (by decide) (by decide) dX7_init_20 rfl ?_
  refine gw_pR (n := 25) (by decide) f_X7_19_7.1 (by rw [f_X7_19_7.2]; decide) (fun a => ⟨rfl, rfl⟩) (gk_fin cl_7 rfl rfl) pl_55 (by decide) dX7_init_22 rfl ?_
  refine gw_al0 (n := 26) dX7_init_25 rfl ?_
  refine gw_bipush (n := 28) (nI 6) dX7_init_26 (by decide) rfl ?_
  refine gw_nI (n := 30) pl_58 (by decide) (by decide) dX7_init_28 rfl ?_
  refine gw_pR (n := 33) (by decide) f_X7_22_7.1 (by rw [f_X7_22_7.2]; decide) (fun a => ⟨rfl, rfl⟩) (gk_fin cl_7 rfl rfl) pl_55 (by decide) dX7_init_30 rfl ?_
  refine gw_al0 (n := 34) dX7_init_33 rfl ?_
  refine gw_bipush (n := 36) (nI 6) dX7_init_34 (by decide) rfl ?_
  refine gw_nI (n := 38) pl_59 (by decide) (by decide) dX7_init_36 rfl ?_
  refine gw_pR (n := 41) (by decide) f_X7_25_7.1 (by rw [f_X7_25_7.2]; decide) (fun a => ⟨rfl, rfl⟩) (gk_fin cl_7 rfl rfl) pl_55 (by decide) dX7_init_38 rfl ?_
  refine gw_al0 (n := 42) dX7_init_41 rfl ?_
  refine gw_iconst (n := 43) (nI 0) dX7_init_42 (by decide) rfl ?_
  refine gw_pI (n := 46) f_X7_28_7 pl_55 (by decide) dX7_init_43 rfl ?_
  refine gw_al0 (n := 47) dX7_init_46 rfl ?_
  refine gw_iconst (n := 48) (nI 0) dX7_init_47 (by decide) rfl ?_
  refine gw_pI (n := 51) f_X7_31_7 pl_55 (by decide) dX7_init_48 rfl ?_
  refine gw_al0 (n := 52) dX7_init_51 rfl ?_
  refine gw_iconst (n := 53) (nI 0) dX7_init_52 (by decide) rfl ?_
  refine gw_pI (n := 56) f_X7_34_7 pl_55 (by decide) dX7_init_53 rfl ?_
  refine gw_al0 (n := 57) dX7_init_56 rfl ?_
  refine gw_iconst (n := 58) (nI 0) dX7_init_57 (by decide) rfl ?_
  refine gw_pI (n := 61) f_X7_37_7 pl_55 (by decide) dX7_init_58 rfl ?_
  refine gw_al0 (n := 62) dX7_init_61 rfl ?_
  refine gw_iconst (n := 63) (nI 0) dX7_init_62 (by decide) rfl ?_
  refine gw_pI (n := 66) f_X7_40_7 pl_55 (by decide) dX7_init_63 rfl ?_
  exact gw_ret rfl dX7_init_66 hq
def gi_X10_init_37 (M : dk_Mem) : dk_Mem := (dk_fl (dk_put (dk_put (gi_X7_init_55 (dk_put (gi_X8_init_47 (dk_put (dk_put (dk_put (dk_put (gi_X4_init_45 (dk_put (dk_put (dk_put (dk_put (dk_put (dk_put (dk_put (dk_put M 37 1 (nI 0)) 37 2 (nI 38)) 37 3 (nI 39)) 37 4 (nI 40)) 37 5 (nI 41)) 37 6 (nI 42)) 37 7 (nI 43)) 37 8 (nI 44))) 37 9 (nI 45)) 37 10 (nI 12)) 37 11 (nI 0)) 37 12 (nI 1))) 37 13 (nI 47))) 37 14 (nI 55)) 37 0 (nI 1)) 42 (nI 6) 16)
set_option maxRecDepth 20000 in
theorem gc_X10_init_37 {d : Nat} {M : dk_Mem} {Q : dk_Mem → Prop} (hq : Q (gi_X10_init_37 M)) : gk_Call 38 60 (d + 2) mX10_init [.ref 37, .ref 1] M Q := by
  refine gk_enter [some (.ref 37), some (.ref 1)] (by decide) rfl (by decide) (fun _ => rfl) (fun _ => Nat.le_of_ble_eq_true rfl) ?_
  refine gw_al0 (n := 1) dX10_init_0 rfl ?_
  refine gw_obj (n := 4) in_217 in_119 in_120 (Nat.le_of_ble_eq_true rfl) dX10_init_1 rfl ?_
  refine gw_al0 (n := 5) dX10_init_4 rfl ?_
  refine gw_iconst (n := 6) (nI 0) dX10_init_5 (by decide) rfl ?_
  refine gw_pI (n := 9) f_X10_9_10 pl_37 (by decide) dX10_init_6 rfl ?_
  refine gw_al0 (n := 10) dX10_init_9 rfl ?_
  refine gw_bipush (n := 12) (nI 6) dX10_init_10 (by decide) rfl ?_
  refine gw_nI (n := 14) pl_38 (by decide) (by decide) dX10_init_12 rfl ?_
  refine gw_pR (n := 17) (by decide) f_X10_15_10.1 (by rw [f_X10_15_10.2]; decide) (fun a => ⟨rfl, rfl⟩) (gk_fin cl_10 rfl rfl) pl_37 (by decide) dX10_init_14 rfl ?_
  refine gw_al0 (n := 18) dX10_init_17 rfl ?_
  refine gw_bipush (n := 20) (nI 6) dX10_init_18 (by decide) rfl ?_
  refine gw_nI (n := 22) pl_39 (by decide) (by decide) dX10_init_20 rfl ?_
  refine gw_pR (n := 25) (by decide) f_X10_19_10.1 (by rw [f_X10_19_10.2]; decide) (fun a => ⟨rfl, rfl⟩) (gk_fin cl_10 rfl rfl) pl_37 (by decide) dX10_init_22 rfl ?_
  refine gw_al0 (n := 26) dX10_init_25 rfl ?_
  refine gw_bipush (n := 28) (nI 6) dX10_init_26 (by decide) rfl ?_
  refine gw_nI (n := 30) pl_40 (by decide) (by decide) dX10_init_28 rfl ?_
  refine gw_pR (n := 33) (by decide) f_X10_22_10.1 (by rw [f_X10_22_10.2]; decide) (fun a => ⟨rfl, rfl⟩) (gk_fin cl_10 rfl rfl) pl_37 (by decide) dX10_init_30 rfl ?_
  refine gw_al0 (n := 34) dX10_init_33 rfl ?_
  refine gw_bipush (n := 36) (nI 6) dX10_init_34 (by decide) rfl ?_
  refine gw_nI (n := 38) pl_41 (by decide) (by decide) dX10_init_36 rfl ?_
  refine gw_pR (n := 41) (by decide) f_X10_25_10.1 (by rw [f_X10_25_10.2]; decide) (fun a => ⟨rfl, rfl⟩) (gk_fin cl_10 rfl rfl) pl_37 (by decide) dX10_init_38 rfl ?_
  refine gw_al0 (n := 42) dX10_init_41 rfl ?_
  refine gw_bipush (n := 44) (nI 16) dX10_init_42 (by decide) rfl ?_
  refine gw_nI (n := 46) pl_42 (by decide) (by decide) dX10_init_44 rfl ?_
  refine gw_pR (n := 49) (by decide) f_X10_28_10.1 (by rw [f_X10_28_10.2]; decide) (fun a => ⟨rfl, rfl⟩) (gk_fin cl_10 rfl rfl) pl_37 (by decide) dX10_init_46 rfl ?_
  refine gw_al0 (n := 50) dX10_init_49 rfl ?_
  refine gw_bipush (n := 52) (nI 6) dX10_init_50 (by decide) rfl ?_
  refine gw_nI (n := 54) pl_43 (by decide) (by decide) dX10_init_52 rfl ?_
  refine gw_pR (n := 57) (by decide) f_X10_31_10.1 (by rw [f_X10_31_10.2]; decide) (fun a => ⟨rfl, rfl⟩) (gk_fin cl_10 rfl rfl) pl_37 (by decide) dX10_init_54 rfl ?_
  refine gw_al0 (n := 58) dX10_init_57 rfl ?_
  refine gw_bipush (n := 60) (nI 6) dX10_init_58 (by decide) rfl ?_
  refine gw_nI (n := 62) pl_44 (by decide) (by decide) dX10_init_60 rfl ?_
  refine gw_pR (n := 65) (by decide) f_X10_34_10.1 (by rw [f_X10_34_10.2]; decide) (fun a => ⟨rfl, rfl⟩) (gk_fin cl_10 rfl rfl) pl_37 (by decide) dX10_init_62 rfl ?_
  refine gw_al0 (n := 66) dX10_init_65 rfl ?_
  refine gw_new (n := 69) cl_4 pl_45.1 (by decide) gk_df_4 in_218 in_219 in_100 dX10_init_66 rfl ?_
  refine gw_dup (n := 70) rfl dX10_init_69 rfl ?_
  refine gw_cIN0 (n := 73) (nm := 47) s0_X4_init rfl (by decide) in_221 rfl (Nat.le_of_ble_eq_true rfl) (by decide) (by decide) dX10_init_70 rfl (gc_X4_init_45 (d := d + 0) ?_)
  refine gw_pR (n := 76) (by decide) f_X10_40_10.1 (by rw [f_X10_40_10.2]; decide) (fun a => ⟨rfl, rfl⟩) (gk_fin cl_10 rfl rfl) pl_37 (by decide) dX10_init_73 rfl ?_
  refine gw_al0 (n := 77) dX10_init_76 rfl ?_
  refine gw_bipush (n := 79) (nI 12) dX10_init_77 (by decide) rfl ?_
  refine gw_pI (n := 82) f_X10_44_10 pl_37 (by decide) dX10_init_79 rfl ?_
  refine gw_al0 (n := 83) dX10_init_82 rfl ?_
  refine gw_iconst (n := 84) (nI 0) dX10_init_83 (by decide) rfl ?_
  refine gw_pI (n := 87) f_X10_47_10 pl_37 (by decide) dX10_init_84 rfl ?_
  refine gw_al0 (n := 88) dX10_init_87 rfl ?_
  refine gw_iconst (n := 89) (nI 1) dX10_init_88 (by decide) rfl ?_
  refine gw_pI (n := 92) f_X10_50_10 pl_37 (by decide) dX10_init_89 rfl ?_
  refine gw_al0 (n := 93) dX10_init_92 rfl ?_
  refine gw_new (n := 96) cl_8 pl_47.1 (by decide) gk_df_8 in_240 in_241 in_101 dX10_init_93 rfl ?_
  refine gw_dup (n := 97) rfl dX10_init_96 rfl ?_
  refine gw_cIN0 (n := 100) (nm := 55) s0_X8_init rfl (by decide) in_243 rfl (Nat.le_of_ble_eq_true rfl) (by decide) (by decide) dX10_init_97 rfl (gc_X8_init_47 (d := d + 0) ?_)
  refine gw_pR (n := 103) (by decide) f_X10_56_10.1 (by rw [f_X10_56_10.2]; decide) (fun a => ⟨rfl, rfl⟩) (fun h => by cases h) pl_37 (by decide) dX10_init_100 rfl ?_
  refine gw_al0 (n := 104) dX10_init_103 rfl ?_
  refine gw_new (n := 107) cl_7 pl_55.1 (by decide) gk_df_7 in_281 in_282 in_102 dX10_init_104 rfl ?_
  refine gw_dup (n := 108) rfl dX10_init_107 rfl ?_
  refine gw_cIN0 (n := 111) (nm := 60) s0_X7_init rfl (by decide) in_284 rfl (Nat.le_of_ble_eq_true rfl) (by decide) (by decide) dX10_init_108 rfl (gc_X7_init_55 (d := d + 0) ?_)
  refine gw_pR (n := 114) (by decide) f_X10_63_10.1 (by rw [f_X10_63_10.2]; decide) (fun a => ⟨rfl, rfl⟩) (gk_fin cl_10 rfl rfl) pl_37 (by decide) dX10_init_111 rfl ?_
  refine gw_al0 (n := 115) dX10_init_114 rfl ?_
  refine gw_al1 (n := 116) dX10_init_115 rfl ?_
  refine gw_pR (n := 119) (by decide) f_X10_67_10.1 (by rw [f_X10_67_10.2]; decide) (fun a => ⟨rfl, rfl⟩) (gk_fin cl_10 rfl rfl) pl_37 (by decide) dX10_init_116 rfl ?_
  refine gw_al0 (n := 120) dX10_init_119 rfl ?_
  refine gw_gR (n := 123) f_X10_28_10.1 (by rw [f_X10_28_10.2]; decide) pl_37 (by decide) (dk_ref_i (show _ = nI 42 from rfl) (by decide)) dX10_init_120 rfl ?_
  refine gw_bipush (n := 125) (nI 6) dX10_init_123 (by decide) rfl ?_
  refine gw_cS2 (n := 128) s0_J7_fill_53178 k_X10_71 rfl (Nat.le_of_ble_eq_true rfl) (by decide) dX10_init_125 rfl (gk_fill pl_42 (by decide) (by decide) (by decide) ?_)
  exact gw_ret rfl dX10_init_128 hq
def gi_X4_init_69 (M : dk_Mem) : dk_Mem := (dk_put (dk_put (dk_put M 69 0 (nI 0)) 69 1 (nI 0)) 69 2 (nI 70))
set_option maxRecDepth 20000 in
theorem gc_X4_init_69 {d : Nat} {M : dk_Mem} {Q : dk_Mem → Prop} (hq : Q (gi_X4_init_69 M)) : gk_Call 70 71 (d + 1) mX4_init [.ref 69] M Q := by
  refine gk_enter [some (.ref 69)] (by decide) rfl (by decide) (fun _ => rfl) (fun _ => Nat.le_of_ble_eq_true rfl) ?_
  refine gw_al0 (n := 1) dX4_init_0 rfl ?_
  refine gw_obj (n := 4) in_223 in_119 in_120 (Nat.le_of_ble_eq_true rfl) dX4_init_1 rfl ?_
  refine gw_al0 (n := 5) dX4_init_4 rfl ?_
  refine gw_iconst (n := 6) (nI 0) dX4_init_5 (by decide) rfl ?_
  refine gw_pI (n := 9) f_X4_9_4 pl_69 (by decide) dX4_init_6 rfl ?_
  refine gw_al0 (n := 10) dX4_init_9 rfl ?_
  refine gw_iconst (n := 11) (nI 0) dX4_init_10 (by decide) rfl ?_
  refine gw_pI (n := 14) f_X4_15_4 pl_69 (by decide) dX4_init_11 rfl ?_
  refine gw_al0 (n := 15) dX4_init_14 rfl ?_
  refine gw_bipush (n := 17) (nI 6) dX4_init_15 (by decide) rfl ?_
  refine gw_nI (n := 19) pl_70 (by decide) (by decide) dX4_init_17 rfl ?_
  refine gw_pR (n := 22) (by decide) f_X4_18_4.1 (by rw [f_X4_18_4.2]; decide) (fun a => ⟨rfl, rfl⟩) (gk_fin cl_4 rfl rfl) pl_69 (by decide) dX4_init_19 rfl ?_
  exact gw_ret rfl dX4_init_22 hq
def gi_X4_init_71 (M : dk_Mem) : dk_Mem := (dk_put (dk_put (dk_put M 71 0 (nI 0)) 71 1 (nI 0)) 71 2 (nI 72))
set_option maxRecDepth 20000 in
theorem gc_X4_init_71 {d : Nat} {M : dk_Mem} {Q : dk_Mem → Prop} (hq : Q (gi_X4_init_71 M)) : gk_Call 72 73 (d + 1) mX4_init [.ref 71] M Q := by
  refine gk_enter [some (.ref 71)] (by decide) rfl (by decide) (fun _ => rfl) (fun _ => Nat.le_of_ble_eq_true rfl) ?_
  refine gw_al0 (n := 1) dX4_init_0 rfl ?_
  refine gw_obj (n := 4) in_223 in_119 in_120 (Nat.le_of_ble_eq_true rfl) dX4_init_1 rfl ?_
  refine gw_al0 (n := 5) dX4_init_4 rfl ?_
  refine gw_iconst (n := 6) (nI 0) dX4_init_5 (by decide) rfl ?_
  refine gw_pI (n := 9) f_X4_9_4 pl_71 (by decide) dX4_init_6 rfl ?_
  refine gw_al0 (n := 10) dX4_init_9 rfl ?_
  refine gw_iconst (n := 11) (nI 0) dX4_init_10 (by decide) rfl ?_
  refine gw_pI (n := 14) f_X4_15_4 pl_71 (by decide) dX4_init_11 rfl ?_
  refine gw_al0 (n := 15) dX4_init_14 rfl ?_
  refine gw_bipush (n := 17) (nI 6) dX4_init_15 (by decide) rfl ?_
  refine gw_nI (n := 19) pl_72 (by decide) (by decide) dX4_init_17 rfl ?_
  refine gw_pR (n := 22) (by decide) f_X4_18_4.1 (by rw [f_X4_18_4.2]; decide) (fun a => ⟨rfl, rfl⟩) (gk_fin cl_4 rfl rfl) pl_71 (by decide) dX4_init_19 rfl ?_
  exact gw_ret rfl dX4_init_22 hq
def gi_X4_init_73 (M : dk_Mem) : dk_Mem := (dk_put (dk_put (dk_put M 73 0 (nI 0)) 73 1 (nI 0)) 73 2 (nI 74))
set_option maxRecDepth 20000 in
theorem gc_X4_init_73 {d : Nat} {M : dk_Mem} {Q : dk_Mem → Prop} (hq : Q (gi_X4_init_73 M)) : gk_Call 74 75 (d + 1) mX4_init [.ref 73] M Q := by
  refine gk_enter [some (.ref 73)] (by decide) rfl (by decide) (fun _ => rfl) (fun _ => Nat.le_of_ble_eq_true rfl) ?_
  refine gw_al0 (n := 1) dX4_init_0 rfl ?_
  refine gw_obj (n := 4) in_223 in_119 in_120 (Nat.le_of_ble_eq_true rfl) dX4_init_1 rfl ?_
  refine gw_al0 (n := 5) dX4_init_4 rfl ?_
  refine gw_iconst (n := 6) (nI 0) dX4_init_5 (by decide) rfl ?_
  refine gw_pI (n := 9) f_X4_9_4 pl_73 (by decide) dX4_init_6 rfl ?_
  refine gw_al0 (n := 10) dX4_init_9 rfl ?_
  refine gw_iconst (n := 11) (nI 0) dX4_init_10 (by decide) rfl ?_
  refine gw_pI (n := 14) f_X4_15_4 pl_73 (by decide) dX4_init_11 rfl ?_
  refine gw_al0 (n := 15) dX4_init_14 rfl ?_
  refine gw_bipush (n := 17) (nI 6) dX4_init_15 (by decide) rfl ?_
  refine gw_nI (n := 19) pl_74 (by decide) (by decide) dX4_init_17 rfl ?_
  refine gw_pR (n := 22) (by decide) f_X4_18_4.1 (by rw [f_X4_18_4.2]; decide) (fun a => ⟨rfl, rfl⟩) (gk_fin cl_4 rfl rfl) pl_73 (by decide) dX4_init_19 rfl ?_
  exact gw_ret rfl dX4_init_22 hq
def gi_X4_init_75 (M : dk_Mem) : dk_Mem := (dk_put (dk_put (dk_put M 75 0 (nI 0)) 75 1 (nI 0)) 75 2 (nI 76))
set_option maxRecDepth 20000 in
theorem gc_X4_init_75 {d : Nat} {M : dk_Mem} {Q : dk_Mem → Prop} (hq : Q (gi_X4_init_75 M)) : gk_Call 76 77 (d + 1) mX4_init [.ref 75] M Q := by
  refine gk_enter [some (.ref 75)] (by decide) rfl (by decide) (fun _ => rfl) (fun _ => Nat.le_of_ble_eq_true rfl) ?_
  refine gw_al0 (n := 1) dX4_init_0 rfl ?_
  refine gw_obj (n := 4) in_223 in_119 in_120 (Nat.le_of_ble_eq_true rfl) dX4_init_1 rfl ?_
  refine gw_al0 (n := 5) dX4_init_4 rfl ?_
  refine gw_iconst (n := 6) (nI 0) dX4_init_5 (by decide) rfl ?_
  refine gw_pI (n := 9) f_X4_9_4 pl_75 (by decide) dX4_init_6 rfl ?_
  refine gw_al0 (n := 10) dX4_init_9 rfl ?_
  refine gw_iconst (n := 11) (nI 0) dX4_init_10 (by decide) rfl ?_
  refine gw_pI (n := 14) f_X4_15_4 pl_75 (by decide) dX4_init_11 rfl ?_
  refine gw_al0 (n := 15) dX4_init_14 rfl ?_
  refine gw_bipush (n := 17) (nI 6) dX4_init_15 (by decide) rfl ?_
  refine gw_nI (n := 19) pl_76 (by decide) (by decide) dX4_init_17 rfl ?_
  refine gw_pR (n := 22) (by decide) f_X4_18_4.1 (by rw [f_X4_18_4.2]; decide) (fun a => ⟨rfl, rfl⟩) (gk_fin cl_4 rfl rfl) pl_75 (by decide) dX4_init_19 rfl ?_
  exact gw_ret rfl dX4_init_22 hq
def gi_X4_init_77 (M : dk_Mem) : dk_Mem := (dk_put (dk_put (dk_put M 77 0 (nI 0)) 77 1 (nI 0)) 77 2 (nI 78))
set_option maxRecDepth 20000 in
theorem gc_X4_init_77 {d : Nat} {M : dk_Mem} {Q : dk_Mem → Prop} (hq : Q (gi_X4_init_77 M)) : gk_Call 78 79 (d + 1) mX4_init [.ref 77] M Q := by
  refine gk_enter [some (.ref 77)] (by decide) rfl (by decide) (fun _ => rfl) (fun _ => Nat.le_of_ble_eq_true rfl) ?_
  refine gw_al0 (n := 1) dX4_init_0 rfl ?_
  refine gw_obj (n := 4) in_223 in_119 in_120 (Nat.le_of_ble_eq_true rfl) dX4_init_1 rfl ?_
  refine gw_al0 (n := 5) dX4_init_4 rfl ?_
  refine gw_iconst (n := 6) (nI 0) dX4_init_5 (by decide) rfl ?_
  refine gw_pI (n := 9) f_X4_9_4 pl_77 (by decide) dX4_init_6 rfl ?_
  refine gw_al0 (n := 10) dX4_init_9 rfl ?_
  refine gw_iconst (n := 11) (nI 0) dX4_init_10 (by decide) rfl ?_
  refine gw_pI (n := 14) f_X4_15_4 pl_77 (by decide) dX4_init_11 rfl ?_
  refine gw_al0 (n := 15) dX4_init_14 rfl ?_
  refine gw_bipush (n := 17) (nI 6) dX4_init_15 (by decide) rfl ?_
  refine gw_nI (n := 19) pl_78 (by decide) (by decide) dX4_init_17 rfl ?_
  refine gw_pR (n := 22) (by decide) f_X4_18_4.1 (by rw [f_X4_18_4.2]; decide) (fun a => ⟨rfl, rfl⟩) (gk_fin cl_4 rfl rfl) pl_77 (by decide) dX4_init_19 rfl ?_
  exact gw_ret rfl dX4_init_22 hq
def gi_X6_init_60 (M : dk_Mem) : dk_Mem := (dk_put (gi_X4_init_77 (dk_put (gi_X4_init_75 (dk_put (gi_X4_init_73 (dk_put (gi_X4_init_71 (dk_put (gi_X4_init_69 (dk_put (dk_put (dk_put (gk_mr (dk_put M 60 1 (nI 61)) 62 5) 60 2 (nI 62)) 60 3 (nI 68)) 60 0 (nI 14))) 61 0 (nI 69))) 61 1 (nI 71))) 61 2 (nI 73))) 61 3 (nI 75))) 61 4 (nI 77))
set_option maxRecDepth 20000 in
theorem gc_X6_init_60 {d : Nat} (hMu : gk_Mu) {M : dk_Mem} {Q : dk_Mem → Prop} (hq : Q (gi_X6_init_60 M)) : gk_Call 61 79 (d + 2) mX6_init [.ref 60, .ref 14] M Q := by
  refine gk_enter [some (.ref 60), some (.ref 14), none] (by decide) rfl (by decide) (fun _ => rfl) (fun _ => Nat.le_of_ble_eq_true rfl) ?_
  refine gw_al0 (n := 1) dX6_init_0 rfl ?_
  refine gw_obj (n := 4) in_395 in_119 in_120 (Nat.le_of_ble_eq_true rfl) dX6_init_1 rfl ?_
  refine gw_al0 (n := 5) dX6_init_4 rfl ?_
  refine gw_iconst (n := 6) (nI 5) dX6_init_5 (by decide) rfl ?_
  refine gw_anew (n := 9) (t := 24) (kt := 4) (fun ca => rfl) (fun U h => h.2.1) pl_61.1 (by decide) pl_61.2.2 (by decide) (by decide) in_396 dX6_init_6 rfl ?_
  refine gw_pR (n := 12) (by decide) f_X6_11_6.1 (by rw [f_X6_11_6.2]; decide) (fun a => ⟨rfl, rfl⟩) (gk_fin cl_6 rfl rfl) pl_60 (by decide) dX6_init_9 rfl ?_
  refine gw_al0 (n := 13) dX6_init_12 rfl ?_
  refine gw_iconst (n := 14) (nI 5) dX6_init_13 (by decide) rfl ?_
  refine gw_iconst (n := 15) (nI 4) dX6_init_14 (by decide) rfl ?_
  refine hMu (n := 19) pl_62 (by decide) (by decide) gk_rw_62 (by decide) in_398 dX6_init_15 rfl ?_
  refine gw_pR (n := 22) (by decide) f_X6_19_6.1 (by rw [f_X6_19_6.2]; decide) (fun a => ⟨rfl, rfl⟩) (gk_fin cl_6 rfl rfl) pl_60 (by decide) dX6_init_19 rfl ?_
  refine gw_al0 (n := 23) dX6_init_22 rfl ?_
  refine gw_iconst (n := 24) (nI 5) dX6_init_23 (by decide) rfl ?_
  refine gw_nI (n := 26) pl_68 (by decide) (by decide) dX6_init_24 rfl ?_
  refine gw_pR (n := 29) (by decide) f_X6_22_6.1 (by rw [f_X6_22_6.2]; decide) (fun a => ⟨rfl, rfl⟩) (gk_fin cl_6 rfl rfl) pl_60 (by decide) dX6_init_26 rfl ?_
  refine gw_al0 (n := 30) dX6_init_29 rfl ?_
  refine gw_al1 (n := 31) dX6_init_30 rfl ?_
  refine gw_pR (n := 34) (by decide) f_X6_26_6.1 (by rw [f_X6_26_6.2]; decide) (fun a => ⟨rfl, rfl⟩) (gk_fin cl_6 rfl rfl) pl_60 (by decide) dX6_init_31 rfl ?_
  refine gw_iconst (n := 35) (nI 0) dX6_init_34 (by decide) rfl ?_
  refine gw_is2 (n := 36) dX6_init_35 rfl rfl (by decide) ?_
  refine gw_il2 (n := 37) dX6_init_36 rfl ?_
  refine gw_iconst (n := 38) (nI 4) dX6_init_37 (by decide) rfl ?_
  refine gw_ic_gt (n := 41) 60 dX6_init_38 (by decide) rfl (fun h => absurd h (by decide)) (fun _ => ?_)
  refine gw_al0 (n := 42) dX6_init_41 rfl ?_
  refine gw_gR (n := 45) f_X6_11_6.1 (by rw [f_X6_11_6.2]; decide) pl_60 (by decide) (dk_ref_i (show _ = nI 61 from rfl) (by decide)) dX6_init_42 rfl ?_
  refine gw_il2 (n := 46) dX6_init_45 rfl ?_
  refine gw_new (n := 49) cl_4 pl_69.1 (by decide) gk_df_4 in_396 in_219 in_100 dX6_init_46 rfl ?_
  refine gw_dup (n := 50) rfl dX6_init_49 rfl ?_
  refine gw_cIN0 (n := 53) (nm := 71) s0_X4_init rfl (by decide) in_221 rfl (Nat.le_of_ble_eq_true rfl) (by decide) (by decide) dX6_init_50 rfl (gc_X4_init_69 (d := d + 0) ?_)
  refine gw_aast (n := 54) (t := 24) (kt := 4) (j := 0) pl_61 (by decide) (by decide) (fun ca => rfl) cl_4 pl_69 (by decide) (fun s _ a b => vb_asgS a b) (by decide) (by decide) dX6_init_53 rfl ?_
  refine gw_inc2 (n := 57) (nI 1) dX6_init_54 (by decide) rfl rfl (by decide) ?_
  rw [nI_add]
  refine gw_goto 36 dX6_init_57 (by decide) ?_
  refine gw_il2 (n := 37) dX6_init_36 rfl ?_
  refine gw_iconst (n := 38) (nI 4) dX6_init_37 (by decide) rfl ?_
  refine gw_ic_gt (n := 41) 60 dX6_init_38 (by decide) rfl (fun h => absurd h (by decide)) (fun _ => ?_)
  refine gw_al0 (n := 42) dX6_init_41 rfl ?_
  refine gw_gR (n := 45) f_X6_11_6.1 (by rw [f_X6_11_6.2]; decide) pl_60 (by decide) (dk_ref_i (show _ = nI 61 from rfl) (by decide)) dX6_init_42 rfl ?_
  refine gw_il2 (n := 46) dX6_init_45 rfl ?_
  refine gw_new (n := 49) cl_4 pl_71.1 (by decide) gk_df_4 in_396 in_219 in_100 dX6_init_46 rfl ?_
  refine gw_dup (n := 50) rfl dX6_init_49 rfl ?_
  refine gw_cIN0 (n := 53) (nm := 73) s0_X4_init rfl (by decide) in_221 rfl (Nat.le_of_ble_eq_true rfl) (by decide) (by decide) dX6_init_50 rfl (gc_X4_init_71 (d := d + 0) ?_)
  refine gw_aast (n := 54) (t := 24) (kt := 4) (j := 1) pl_61 (by decide) (by decide) (fun ca => rfl) cl_4 pl_71 (by decide) (fun s _ a b => vb_asgS a b) (by decide) (by decide) dX6_init_53 rfl ?_
  refine gw_inc2 (n := 57) (nI 1) dX6_init_54 (by decide) rfl rfl (by decide) ?_
  rw [nI_add]
  refine gw_goto 36 dX6_init_57 (by decide) ?_
  refine gw_il2 (n := 37) dX6_init_36 rfl ?_
  refine gw_iconst (n := 38) (nI 4) dX6_init_37 (by decide) rfl ?_
  refine gw_ic_gt (n := 41) 60 dX6_init_38 (by decide) rfl (fun h => absurd h (by decide)) (fun _ => ?_)
  refine gw_al0 (n := 42) dX6_init_41 rfl ?_
  refine gw_gR (n := 45) f_X6_11_6.1 (by rw [f_X6_11_6.2]; decide) pl_60 (by decide) (dk_ref_i (show _ = nI 61 from rfl) (by decide)) dX6_init_42 rfl ?_
  refine gw_il2 (n := 46) dX6_init_45 rfl ?_
  refine gw_new (n := 49) cl_4 pl_73.1 (by decide) gk_df_4 in_396 in_219 in_100 dX6_init_46 rfl ?_
  refine gw_dup (n := 50) rfl dX6_init_49 rfl ?_
  refine gw_cIN0 (n := 53) (nm := 75) s0_X4_init rfl (by decide) in_221 rfl (Nat.le_of_ble_eq_true rfl) (by decide) (by decide) dX6_init_50 rfl (gc_X4_init_73 (d := d + 0) ?_)
  refine gw_aast (n := 54) (t := 24) (kt := 4) (j := 2) pl_61 (by decide) (by decide) (fun ca => rfl) cl_4 pl_73 (by decide) (fun s _ a b => vb_asgS a b) (by decide) (by decide) dX6_init_53 rfl ?_
  refine gw_inc2 (n := 57) (nI 1) dX6_init_54 (by decide) rfl rfl (by decide) ?_
  rw [nI_add]
  refine gw_goto 36 dX6_init_57 (by decide) ?_
  refine gw_il2 (n := 37) dX6_init_36 rfl ?_
  refine gw_iconst (n := 38) (nI 4) dX6_init_37 (by decide) rfl ?_
  refine gw_ic_gt (n := 41) 60 dX6_init_38 (by decide) rfl (fun h => absurd h (by decide)) (fun _ => ?_)
  refine gw_al0 (n := 42) dX6_init_41 rfl ?_
  refine gw_gR (n := 45) f_X6_11_6.1 (by rw [f_X6_11_6.2]; decide) pl_60 (by decide) (dk_ref_i (show _ = nI 61 from rfl) (by decide)) dX6_init_42 rfl ?_
  refine gw_il2 (n := 46) dX6_init_45 rfl ?_
  refine gw_new (n := 49) cl_4 pl_75.1 (by decide) gk_df_4 in_396 in_219 in_100 dX6_init_46 rfl ?_
  refine gw_dup (n := 50) rfl dX6_init_49 rfl ?_
  refine gw_cIN0 (n := 53) (nm := 77) s0_X4_init rfl (by decide) in_221 rfl (Nat.le_of_ble_eq_true rfl) (by decide) (by decide) dX6_init_50 rfl (gc_X4_init_75 (d := d + 0) ?_)
  refine gw_aast (n := 54) (t := 24) (kt := 4) (j := 3) pl_61 (by decide) (by decide) (fun ca => rfl) cl_4 pl_75 (by decide) (fun s _ a b => vb_asgS a b) (by decide) (by decide) dX6_init_53 rfl ?_
  refine gw_inc2 (n := 57) (nI 1) dX6_init_54 (by decide) rfl rfl (by decide) ?_
  rw [nI_add]
  refine gw_goto 36 dX6_init_57 (by decide) ?_
  refine gw_il2 (n := 37) dX6_init_36 rfl ?_
  refine gw_iconst (n := 38) (nI 4) dX6_init_37 (by decide) rfl ?_
  refine gw_ic_gt (n := 41) 60 dX6_init_38 (by decide) rfl (fun h => absurd h (by decide)) (fun _ => ?_)
  refine gw_al0 (n := 42) dX6_init_41 rfl ?_
  refine gw_gR (n := 45) f_X6_11_6.1 (by rw [f_X6_11_6.2]; decide) pl_60 (by decide) (dk_ref_i (show _ = nI 61 from rfl) (by decide)) dX6_init_42 rfl ?_
  refine gw_il2 (n := 46) dX6_init_45 rfl ?_
  refine gw_new (n := 49) cl_4 pl_77.1 (by decide) gk_df_4 in_396 in_219 in_100 dX6_init_46 rfl ?_
  refine gw_dup (n := 50) rfl dX6_init_49 rfl ?_
  refine gw_cIN0 (n := 53) (nm := 79) s0_X4_init rfl (by decide) in_221 rfl (Nat.le_of_ble_eq_true rfl) (by decide) (by decide) dX6_init_50 rfl (gc_X4_init_77 (d := d + 0) ?_)
  refine gw_aast (n := 54) (t := 24) (kt := 4) (j := 4) pl_61 (by decide) (by decide) (fun ca => rfl) cl_4 pl_77 (by decide) (fun s _ a b => vb_asgS a b) (by decide) (by decide) dX6_init_53 rfl ?_
  refine gw_inc2 (n := 57) (nI 1) dX6_init_54 (by decide) rfl rfl (by decide) ?_
  rw [nI_add]
  refine gw_goto 36 dX6_init_57 (by decide) ?_
  refine gw_il2 (n := 37) dX6_init_36 rfl ?_
  refine gw_iconst (n := 38) (nI 4) dX6_init_37 (by decide) rfl ?_
  refine gw_ic_gt (n := 41) 60 dX6_init_38 (by decide) rfl (fun _ => ?_) (fun h => absurd (by decide) h)
  exact gw_ret rfl dX6_init_60 hq
def gi_X4_init_79 (M : dk_Mem) : dk_Mem := (dk_put (dk_put (dk_put M 79 0 (nI 0)) 79 1 (nI 0)) 79 2 (nI 80))
set_option maxRecDepth 20000 in
theorem gc_X4_init_79 {d : Nat} {M : dk_Mem} {Q : dk_Mem → Prop} (hq : Q (gi_X4_init_79 M)) : gk_Call 80 81 (d + 1) mX4_init [.ref 79] M Q := by
  refine gk_enter [some (.ref 79)] (by decide) rfl (by decide) (fun _ => rfl) (fun _ => Nat.le_of_ble_eq_true rfl) ?_
  refine gw_al0 (n := 1) dX4_init_0 rfl ?_
  refine gw_obj (n := 4) in_223 in_119 in_120 (Nat.le_of_ble_eq_true rfl) dX4_init_1 rfl ?_
  refine gw_al0 (n := 5) dX4_init_4 rfl ?_
  refine gw_iconst (n := 6) (nI 0) dX4_init_5 (by decide) rfl ?_
  refine gw_pI (n := 9) f_X4_9_4 pl_79 (by decide) dX4_init_6 rfl ?_
  refine gw_al0 (n := 10) dX4_init_9 rfl ?_
  refine gw_iconst (n := 11) (nI 0) dX4_init_10 (by decide) rfl ?_
  refine gw_pI (n := 14) f_X4_15_4 pl_79 (by decide) dX4_init_11 rfl ?_
  refine gw_al0 (n := 15) dX4_init_14 rfl ?_
  refine gw_bipush (n := 17) (nI 6) dX4_init_15 (by decide) rfl ?_
  refine gw_nI (n := 19) pl_80 (by decide) (by decide) dX4_init_17 rfl ?_
  refine gw_pR (n := 22) (by decide) f_X4_18_4.1 (by rw [f_X4_18_4.2]; decide) (fun a => ⟨rfl, rfl⟩) (gk_fin cl_4 rfl rfl) pl_79 (by decide) dX4_init_19 rfl ?_
  exact gw_ret rfl dX4_init_22 hq
def gi_X8_init_82 (M : dk_Mem) : dk_Mem := (dk_put (dk_put (dk_put (dk_put (dk_put (dk_put (dk_put (dk_put (dk_put (dk_put M 82 0 (nI 0)) 82 1 (nI 83)) 82 2 (nI 84)) 82 3 (nI 85)) 82 4 (nI 86)) 82 5 (nI 0)) 82 6 (nI 87)) 82 7 (nI 88)) 82 8 (nI 89)) 82 9 (nI 0))
set_option maxRecDepth 20000 in
theorem gc_X8_init_82 {d : Nat} {M : dk_Mem} {Q : dk_Mem → Prop} (hq : Q (gi_X8_init_82 M)) : gk_Call 83 90 (d + 1) mX8_init [.ref 82] M Q := by
  refine gk_enter [some (.ref 82)] (by decide) rfl (by decide) (fun _ => rfl) (fun _ => Nat.le_of_ble_eq_true rfl) ?_
  refine gw_al0 (n := 1) dX8_init_0 rfl ?_
  refine gw_obj (n := 4) in_245 in_119 in_120 (Nat.le_of_ble_eq_true rfl) dX8_init_1 rfl ?_
  refine gw_al0 (n := 5) dX8_init_4 rfl ?_
  refine gw_iconst (n := 6) (nI 0) dX8_init_5 (by decide) rfl ?_
  refine gw_pI (n := 9) f_X8_9_8 pl_82 (by decide) dX8_init_6 rfl ?_
  refine gw_al0 (n := 10) dX8_init_9 rfl ?_
  refine gw_bipush (n := 12) (nI 8) dX8_init_10 (by decide) rfl ?_
  refine gw_nI (n := 14) pl_83 (by decide) (by decide) dX8_init_12 rfl ?_
  refine gw_pR (n := 17) (by decide) f_X8_15_8.1 (by rw [f_X8_15_8.2]; decide) (fun a => ⟨rfl, rfl⟩) (gk_fin cl_8 rfl rfl) pl_82 (by decide) dX8_init_14 rfl ?_
  refine gw_al0 (n := 18) dX8_init_17 rfl ?_
  refine gw_bipush (n := 20) (nI 8) dX8_init_18 (by decide) rfl ?_
  refine gw_nI (n := 22) pl_84 (by decide) (by decide) dX8_init_20 rfl ?_
  refine gw_pR (n := 25) (by decide) f_X8_19_8.1 (by rw [f_X8_19_8.2]; decide) (fun a => ⟨rfl, rfl⟩) (gk_fin cl_8 rfl rfl) pl_82 (by decide) dX8_init_22 rfl ?_
  refine gw_al0 (n := 26) dX8_init_25 rfl ?_
  refine gw_bipush (n := 28) (nI 9) dX8_init_26 (by decide) rfl ?_
  refine gw_nI (n := 30) pl_85 (by decide) (by decide) dX8_init_28 rfl ?_
  refine gw_pR (n := 33) (by decide) f_X8_22_8.1 (by rw [f_X8_22_8.2]; decide) (fun a => ⟨rfl, rfl⟩) (gk_fin cl_8 rfl rfl) pl_82 (by decide) dX8_init_30 rfl ?_
  refine gw_al0 (n := 34) dX8_init_33 rfl ?_
  refine gw_sipush (n := 37) (nI 200) dX8_init_34 (by decide) rfl ?_
  refine gw_nI (n := 39) pl_86 (by decide) (by decide) dX8_init_37 rfl ?_
  refine gw_pR (n := 42) (by decide) f_X8_25_8.1 (by rw [f_X8_25_8.2]; decide) (fun a => ⟨rfl, rfl⟩) (gk_fin cl_8 rfl rfl) pl_82 (by decide) dX8_init_39 rfl ?_
  refine gw_al0 (n := 43) dX8_init_42 rfl ?_
  refine gw_iconst (n := 44) (nI 0) dX8_init_43 (by decide) rfl ?_
  refine gw_pI (n := 47) f_X8_28_8 pl_82 (by decide) dX8_init_44 rfl ?_
  refine gw_al0 (n := 48) dX8_init_47 rfl ?_
  refine gw_iconst (n := 49) (nI 5) dX8_init_48 (by decide) rfl ?_
  refine gw_nI (n := 51) pl_87 (by decide) (by decide) dX8_init_49 rfl ?_
  refine gw_pR (n := 54) (by decide) f_X8_31_8.1 (by rw [f_X8_31_8.2]; decide) (fun a => ⟨rfl, rfl⟩) (gk_fin cl_8 rfl rfl) pl_82 (by decide) dX8_init_51 rfl ?_
  refine gw_al0 (n := 55) dX8_init_54 rfl ?_
  refine gw_sipush (n := 58) (nI 201) dX8_init_55 (by decide) rfl ?_
  refine gw_nI (n := 60) pl_88 (by decide) (by decide) dX8_init_58 rfl ?_
  refine gw_pR (n := 63) (by decide) f_X8_34_8.1 (by rw [f_X8_34_8.2]; decide) (fun a => ⟨rfl, rfl⟩) (gk_fin cl_8 rfl rfl) pl_82 (by decide) dX8_init_60 rfl ?_
  refine gw_al0 (n := 64) dX8_init_63 rfl ?_
  refine gw_sipush (n := 67) (nI 201) dX8_init_64 (by decide) rfl ?_
  refine gw_nI (n := 69) pl_89 (by decide) (by decide) dX8_init_67 rfl ?_
  refine gw_pR (n := 72) (by decide) f_X8_37_8.1 (by rw [f_X8_37_8.2]; decide) (fun a => ⟨rfl, rfl⟩) (gk_fin cl_8 rfl rfl) pl_82 (by decide) dX8_init_69 rfl ?_
  refine gw_al0 (n := 73) dX8_init_72 rfl ?_
  refine gw_iconst (n := 74) (nI 0) dX8_init_73 (by decide) rfl ?_
  refine gw_pI (n := 77) f_X8_40_8 pl_82 (by decide) dX8_init_74 rfl ?_
  exact gw_ret rfl dX8_init_77 hq
def gi_X11_init_0 (M : dk_Mem) : dk_Mem := (dk_fl (dk_fl (dk_put (dk_put (dk_put (dk_put (gk_mr (dk_put (dk_put (dk_put (dk_put (gk_mr (dk_put (gi_X8_init_82 (dk_put (dk_put (dk_put (gi_X4_init_79 (dk_put (gi_X6_init_60 (dk_put (dk_put (gi_X10_init_37 (dk_put (gi_X10_init_14 (dk_put (dk_put (gi_X9_init_12 (dk_put (gi_X3_init_10 (dk_put (gi_X1_init_8 (dk_put (gi_X2_init_6 (dk_put (gi_X0_init_4 (dk_put (gi_X5_init_2 M) 1 0 (nI 2))) 1 1 (nI 4))) 1 2 (nI 6))) 1 3 (nI 8))) 1 4 (nI 10))) 1 5 (nI 12)) 0 0 (nI 1))) 0 1 (nI 14))) 0 2 (nI 37)) 0 3 (nI 0))) 0 4 (nI 60))) 0 5 (nI 79)) 0 6 (nI 81)) 0 7 (nI 0))) 0 8 (nI 82)) 90 4) 0 9 (nI 90)) 0 10 (nI 0)) 0 11 (nI 95)) 0 12 (nI 96)) 97 4) 0 13 (nI 97)) 0 14 (nI 102)) 0 15 (nI 103)) 0 16 (-1)) 95 (-1) 4) 102 (-1) 4)
set_option maxRecDepth 20000 in
theorem gc_X11_init_0 {d : Nat} (hMu : gk_Mu) {M : dk_Mem} {Q : dk_Mem → Prop} (hq : Q (gi_X11_init_0 M)) : gk_Call 1 104 (d + 4) mX11_init [.ref 0] M Q := by
  refine gk_enter [some (.ref 0)] (by decide) rfl (by decide) (fun _ => rfl) (fun _ => Nat.le_of_ble_eq_true rfl) ?_
  refine gw_al0 (n := 1) dX11_init_0 rfl ?_
  refine gw_obj (n := 4) in_118 in_119 in_120 (Nat.le_of_ble_eq_true rfl) dX11_init_1 rfl ?_
  refine gw_al0 (n := 5) dX11_init_4 rfl ?_
  refine gw_bipush (n := 7) (nI 6) dX11_init_5 (by decide) rfl ?_
  refine gw_anew (n := 10) (t := 25) (kt := 5) (fun ca => rfl) (fun U h => h.1) pl_1.1 (by decide) pl_1.2.2 (by decide) (by decide) in_121 dX11_init_7 rfl ?_
  refine gw_dup (n := 11) rfl dX11_init_10 rfl ?_
  refine gw_iconst (n := 12) (nI 0) dX11_init_11 (by decide) rfl ?_
  refine gw_new (n := 15) cl_5 pl_2.1 (by decide) gk_df_5 in_121 in_123 in_93 dX11_init_12 rfl ?_
  refine gw_dup (n := 16) rfl dX11_init_15 rfl ?_
  refine gw_cIN0 (n := 19) (nm := 4) s0_X5_init rfl (by decide) in_125 rfl (Nat.le_of_ble_eq_true rfl) (by decide) (by decide) dX11_init_16 rfl (gc_X5_init_2 (d := d + 2) ?_)
  refine gw_aast (n := 20) (t := 25) (kt := 5) (j := 0) pl_1 (by decide) (by decide) (fun ca => rfl) cl_5 pl_2 (by decide) (fun s _ a b => vb_asgS a b) (by decide) (by decide) dX11_init_19 rfl ?_
  refine gw_dup (n := 21) rfl dX11_init_20 rfl ?_
  refine gw_iconst (n := 22) (nI 1) dX11_init_21 (by decide) rfl ?_
  refine gw_new (n := 25) cl_0 pl_4.1 (by decide) gk_df_0 in_152 in_153 in_94 dX11_init_22 rfl ?_
  refine gw_dup (n := 26) rfl dX11_init_25 rfl ?_
  refine gw_cIN0 (n := 29) (nm := 6) s0_X0_init rfl (by decide) in_155 rfl (Nat.le_of_ble_eq_true rfl) (by decide) (by decide) dX11_init_26 rfl (gc_X0_init_4 (d := d + 1) ?_)
  refine gw_aast (n := 30) (t := 25) (kt := 5) (j := 1) pl_1 (by decide) (by decide) (fun ca => rfl) cl_0 pl_4 (by decide) (fun s h a b => vb_asgC h.2.2.2.1 a b) (by decide) (by decide) dX11_init_29 rfl ?_
  refine gw_dup (n := 31) rfl dX11_init_30 rfl ?_
  refine gw_iconst (n := 32) (nI 2) dX11_init_31 (by decide) rfl ?_
  refine gw_new (n := 35) cl_2 pl_6.1 (by decide) gk_df_2 in_164 in_165 in_95 dX11_init_32 rfl ?_
  refine gw_dup (n := 36) rfl dX11_init_35 rfl ?_
  refine gw_cIN0 (n := 39) (nm := 8) s0_X2_init rfl (by decide) in_167 rfl (Nat.le_of_ble_eq_true rfl) (by decide) (by decide) dX11_init_36 rfl (gc_X2_init_6 (d := d + 1) ?_)
  refine gw_aast (n := 40) (t := 25) (kt := 5) (j := 2) pl_1 (by decide) (by decide) (fun ca => rfl) cl_2 pl_6 (by decide) (fun s h a b => vb_asgC h.2.2.2.2.1 a b) (by decide) (by decide) dX11_init_39 rfl ?_
  refine gw_dup (n := 41) rfl dX11_init_40 rfl ?_
  refine gw_iconst (n := 42) (nI 3) dX11_init_41 (by decide) rfl ?_
  refine gw_new (n := 45) cl_1 pl_8.1 (by decide) gk_df_1 in_176 in_177 in_96 dX11_init_42 rfl ?_
  refine gw_dup (n := 46) rfl dX11_init_45 rfl ?_
  refine gw_cIN0 (n := 49) (nm := 10) s0_X1_init rfl (by decide) in_179 rfl (Nat.le_of_ble_eq_true rfl) (by decide) (by decide) dX11_init_46 rfl (gc_X1_init_8 (d := d + 0) ?_)
  refine gw_aast (n := 50) (t := 25) (kt := 5) (j := 3) pl_1 (by decide) (by decide) (fun ca => rfl) cl_1 pl_8 (by decide) (fun s h a b => vb_asgC h.2.2.2.2.2.1 a b) (by decide) (by decide) dX11_init_49 rfl ?_
  refine gw_dup (n := 51) rfl dX11_init_50 rfl ?_
  refine gw_iconst (n := 52) (nI 4) dX11_init_51 (by decide) rfl ?_
  refine gw_new (n := 55) cl_3 pl_10.1 (by decide) gk_df_3 in_188 in_189 in_97 dX11_init_52 rfl ?_
  refine gw_dup (n := 56) rfl dX11_init_55 rfl ?_
  refine gw_cIN0 (n := 59) (nm := 12) s0_X3_init rfl (by decide) in_191 rfl (Nat.le_of_ble_eq_true rfl) (by decide) (by decide) dX11_init_56 rfl (gc_X3_init_10 (d := d + 1) ?_)
  refine gw_aast (n := 60) (t := 25) (kt := 5) (j := 4) pl_1 (by decide) (by decide) (fun ca => rfl) cl_3 pl_10 (by decide) (fun s h a b => vb_asgC h.2.2.2.2.2.2.1 a b) (by decide) (by decide) dX11_init_59 rfl ?_
  refine gw_dup (n := 61) rfl dX11_init_60 rfl ?_
  refine gw_iconst (n := 62) (nI 5) dX11_init_61 (by decide) rfl ?_
  refine gw_new (n := 65) cl_9 pl_12.1 (by decide) gk_df_9 in_200 in_201 in_98 dX11_init_62 rfl ?_
  refine gw_dup (n := 66) rfl dX11_init_65 rfl ?_
  refine gw_cIN0 (n := 69) (nm := 14) s0_X9_init rfl (by decide) in_203 rfl (Nat.le_of_ble_eq_true rfl) (by decide) (by decide) dX11_init_66 rfl (gc_X9_init_12 (d := d + 0) ?_)
  refine gw_aast (n := 70) (t := 25) (kt := 5) (j := 5) pl_1 (by decide) (by decide) (fun ca => rfl) cl_9 pl_12 (by decide) (fun s h a b => vb_asgC h.2.2.2.2.2.2.2.1 a b) (by decide) (by decide) dX11_init_69 rfl ?_
  refine gw_pR (n := 73) (by decide) f_X11_25_11.1 (by rw [f_X11_25_11.2]; decide) (fun a => ⟨rfl, rfl⟩) (gk_fin cl_11 rfl rfl) pl_0 (by decide) dX11_init_70 rfl ?_
  refine gw_al0 (n := 74) dX11_init_73 rfl ?_
  refine gw_new (n := 77) cl_10 pl_14.1 (by decide) gk_df_10 in_212 in_213 in_99 dX11_init_74 rfl ?_
  refine gw_dup (n := 78) rfl dX11_init_77 rfl ?_
  refine gw_al0 (n := 79) dX11_init_78 rfl ?_
  refine gw_gR (n := 82) f_X11_25_11.1 (by rw [f_X11_25_11.2]; decide) pl_0 (by decide) (dk_ref_i (show _ = nI 1 from rfl) (by decide)) dX11_init_79 rfl ?_
  refine gw_cI1 (n := 85) (nm := 37) s0_X10_init ⟨in_214, in_215, rfl⟩ rfl (Nat.le_of_ble_eq_true rfl) (by decide) (by decide) dX11_init_82 rfl (gc_X10_init_14 (d := d + 1) ?_)
  refine gw_pR (n := 88) (by decide) f_X11_36_11.1 (by rw [f_X11_36_11.2]; decide) (fun a => ⟨rfl, rfl⟩) (gk_fin cl_11 rfl rfl) pl_0 (by decide) dX11_init_85 rfl ?_
  refine gw_al0 (n := 89) dX11_init_88 rfl ?_
  refine gw_new (n := 92) cl_10 pl_37.1 (by decide) gk_df_10 in_212 in_213 in_99 dX11_init_89 rfl ?_
  refine gw_dup (n := 93) rfl dX11_init_92 rfl ?_
  refine gw_al0 (n := 94) dX11_init_93 rfl ?_
  refine gw_gR (n := 97) f_X11_25_11.1 (by rw [f_X11_25_11.2]; decide) pl_0 (by decide) (dk_ref_i (show _ = nI 1 from rfl) (by decide)) dX11_init_94 rfl ?_
  refine gw_cI1 (n := 100) (nm := 60) s0_X10_init ⟨in_214, in_215, rfl⟩ rfl (Nat.le_of_ble_eq_true rfl) (by decide) (by decide) dX11_init_97 rfl (gc_X10_init_37 (d := d + 1) ?_)
  refine gw_pR (n := 103) (by decide) f_X11_40_11.1 (by rw [f_X11_40_11.2]; decide) (fun a => ⟨rfl, rfl⟩) (gk_fin cl_11 rfl rfl) pl_0 (by decide) dX11_init_100 rfl ?_
  refine gw_al0 (n := 104) dX11_init_103 rfl ?_
  refine gw_iconst (n := 105) (nI 0) dX11_init_104 (by decide) rfl ?_
  refine gw_pZ (n := 108) (by decide) f_X11_43_11 pl_0 (by decide) dX11_init_105 rfl ?_
  refine gw_al0 (n := 109) dX11_init_108 rfl ?_
  refine gw_new (n := 112) cl_6 pl_60.1 (by decide) gk_df_6 in_390 in_391 in_104 dX11_init_109 rfl ?_
  refine gw_dup (n := 113) rfl dX11_init_112 rfl ?_
  refine gw_al0 (n := 114) dX11_init_113 rfl ?_
  refine gw_gR (n := 117) f_X11_36_11.1 (by rw [f_X11_36_11.2]; decide) pl_0 (by decide) (dk_ref_i (show _ = nI 14 from rfl) (by decide)) dX11_init_114 rfl ?_
  refine gw_cI1 (n := 120) (nm := 79) s0_X6_init ⟨in_392, in_393, rfl⟩ rfl (Nat.le_of_ble_eq_true rfl) (by decide) (by decide) dX11_init_117 rfl (gc_X6_init_60 (d := d + 1) hMu ?_)
  refine gw_pR (n := 123) (by decide) f_X11_52_11.1 (by rw [f_X11_52_11.2]; decide) (fun a => ⟨rfl, rfl⟩) (gk_fin cl_11 rfl rfl) pl_0 (by decide) dX11_init_120 rfl ?_
  refine gw_al0 (n := 124) dX11_init_123 rfl ?_
  refine gw_new (n := 127) cl_4 pl_79.1 (by decide) gk_df_4 in_416 in_219 in_100 dX11_init_124 rfl ?_
  refine gw_dup (n := 128) rfl dX11_init_127 rfl ?_
  refine gw_cIN0 (n := 131) (nm := 81) s0_X4_init rfl (by decide) in_221 rfl (Nat.le_of_ble_eq_true rfl) (by decide) (by decide) dX11_init_128 rfl (gc_X4_init_79 (d := d + 2) ?_)
  refine gw_pR (n := 134) (by decide) f_X11_59_11.1 (by rw [f_X11_59_11.2]; decide) (fun a => ⟨rfl, rfl⟩) (gk_fin cl_11 rfl rfl) pl_0 (by decide) dX11_init_131 rfl ?_
  refine gw_al0 (n := 135) dX11_init_134 rfl ?_
  refine gw_sipush (n := 138) (nI 200) dX11_init_135 (by decide) rfl ?_
  refine gw_nB (n := 140) pl_81 (by decide) (by decide) dX11_init_138 rfl ?_
  refine gw_pR (n := 143) (by decide) f_X11_63_11.1 (by rw [f_X11_63_11.2]; decide) (fun a => ⟨rfl, rfl⟩) (gk_fin cl_11 rfl rfl) pl_0 (by decide) dX11_init_140 rfl ?_
  refine gw_al0 (n := 144) dX11_init_143 rfl ?_
  refine gw_iconst (n := 145) (nI 0) dX11_init_144 (by decide) rfl ?_
  refine gw_pI (n := 148) f_X11_67_11 pl_0 (by decide) dX11_init_145 rfl ?_
  refine gw_al0 (n := 149) dX11_init_148 rfl ?_
  refine gw_new (n := 152) cl_8 pl_82.1 (by decide) gk_df_8 in_418 in_241 in_101 dX11_init_149 rfl ?_
  refine gw_dup (n := 153) rfl dX11_init_152 rfl ?_
  refine gw_cIN0 (n := 156) (nm := 90) s0_X8_init rfl (by decide) in_243 rfl (Nat.le_of_ble_eq_true rfl) (by decide) (by decide) dX11_init_153 rfl (gc_X8_init_82 (d := d + 2) ?_)
  refine gw_pR (n := 159) (by decide) f_X11_74_11.1 (by rw [f_X11_74_11.2]; decide) (fun a => ⟨rfl, rfl⟩) (fun h => by cases h) pl_0 (by decide) dX11_init_156 rfl ?_
  refine gw_al0 (n := 160) dX11_init_159 rfl ?_
  refine gw_iconst (n := 161) (nI 4) dX11_init_160 (by decide) rfl ?_
  refine gw_iconst (n := 162) (nI 3) dX11_init_161 (by decide) rfl ?_
  refine hMu (n := 166) pl_90 (by decide) (by decide) gk_rw_90 (by decide) in_420 dX11_init_162 rfl ?_
  refine gw_pR (n := 169) (by decide) f_X11_80_11.1 (by rw [f_X11_80_11.2]; decide) (fun a => ⟨rfl, rfl⟩) (gk_fin cl_11 rfl rfl) pl_0 (by decide) dX11_init_166 rfl ?_
  refine gw_al0 (n := 170) dX11_init_169 rfl ?_
  refine gw_iconst (n := 171) (nI 0) dX11_init_170 (by decide) rfl ?_
  refine gw_pI (n := 174) f_X11_83_11 pl_0 (by decide) dX11_init_171 rfl ?_
  refine gw_al0 (n := 175) dX11_init_174 rfl ?_
  refine gw_iconst (n := 176) (nI 4) dX11_init_175 (by decide) rfl ?_
  refine gw_nI (n := 178) pl_95 (by decide) (by decide) dX11_init_176 rfl ?_
  refine gw_pR (n := 181) (by decide) f_X11_86_11.1 (by rw [f_X11_86_11.2]; decide) (fun a => ⟨rfl, rfl⟩) (gk_fin cl_11 rfl rfl) pl_0 (by decide) dX11_init_178 rfl ?_
  refine gw_al0 (n := 182) dX11_init_181 rfl ?_
  refine gw_iconst (n := 183) (nI 4) dX11_init_182 (by decide) rfl ?_
  refine gw_nI (n := 185) pl_96 (by decide) (by decide) dX11_init_183 rfl ?_
  refine gw_pR (n := 188) (by decide) f_X11_90_11.1 (by rw [f_X11_90_11.2]; decide) (fun a => ⟨rfl, rfl⟩) (gk_fin cl_11 rfl rfl) pl_0 (by decide) dX11_init_185 rfl ?_
  refine gw_al0 (n := 189) dX11_init_188 rfl ?_
  refine gw_iconst (n := 190) (nI 4) dX11_init_189 (by decide) rfl ?_
  refine gw_bipush (n := 192) (nI 40) dX11_init_190 (by decide) rfl ?_
  refine hMu (n := 196) pl_97 (by decide) (by decide) gk_rw_97 (by decide) in_420 dX11_init_192 rfl ?_
  refine gw_pR (n := 199) (by decide) f_X11_93_11.1 (by rw [f_X11_93_11.2]; decide) (fun a => ⟨rfl, rfl⟩) (gk_fin cl_11 rfl rfl) pl_0 (by decide) dX11_init_196 rfl ?_
  refine gw_al0 (n := 200) dX11_init_199 rfl ?_
  refine gw_iconst (n := 201) (nI 4) dX11_init_200 (by decide) rfl ?_
  refine gw_nI (n := 203) pl_102 (by decide) (by decide) dX11_init_201 rfl ?_
  refine gw_pR (n := 206) (by decide) f_X11_96_11.1 (by rw [f_X11_96_11.2]; decide) (fun a => ⟨rfl, rfl⟩) (gk_fin cl_11 rfl rfl) pl_0 (by decide) dX11_init_203 rfl ?_
  refine gw_al0 (n := 207) dX11_init_206 rfl ?_
  refine gw_iconst (n := 208) (nI 4) dX11_init_207 (by decide) rfl ?_
  refine gw_nI (n := 210) pl_103 (by decide) (by decide) dX11_init_208 rfl ?_
  refine gw_pR (n := 213) (by decide) f_X11_99_11.1 (by rw [f_X11_99_11.2]; decide) (fun a => ⟨rfl, rfl⟩) (gk_fin cl_11 rfl rfl) pl_0 (by decide) dX11_init_210 rfl ?_
  refine gw_al0 (n := 214) dX11_init_213 rfl ?_
  refine gw_null (n := 215) dX11_init_214 rfl ?_
  refine gw_pN (n := 218) f_X11_102_11.1 (by rw [f_X11_102_11.2]; decide) ⟨rfl, rfl⟩ pl_0 (by decide) dX11_init_215 rfl ?_
  refine gw_al0 (n := 219) dX11_init_218 rfl ?_
  refine gw_gR (n := 222) f_X11_86_11.1 (by rw [f_X11_86_11.2]; decide) pl_0 (by decide) (dk_ref_i (show _ = nI 95 from rfl) (by decide)) dX11_init_219 rfl ?_
  refine gw_iconst (n := 223) (-1) dX11_init_222 (by decide) rfl ?_
  refine gw_cS2 (n := 226) s0_J7_fill_53178 k_X11_106 rfl (Nat.le_of_ble_eq_true rfl) (by decide) dX11_init_223 rfl (gk_fill pl_95 (by decide) (by decide) (by decide) ?_)
  refine gw_al0 (n := 227) dX11_init_226 rfl ?_
  refine gw_gR (n := 230) f_X11_96_11.1 (by rw [f_X11_96_11.2]; decide) pl_0 (by decide) (dk_ref_i (show _ = nI 102 from rfl) (by decide)) dX11_init_227 rfl ?_
  refine gw_iconst (n := 231) (-1) dX11_init_230 (by decide) rfl ?_
  refine gw_cS2 (n := 234) s0_J7_fill_53178 k_X11_106 rfl (Nat.le_of_ble_eq_true rfl) (by decide) dX11_init_231 rfl (gk_fill pl_102 (by decide) (by decide) (by decide) ?_)
  exact gw_ret rfl dX11_init_234 hq
def gi_X12_init_104 (M : dk_Mem) : dk_Mem := (dk_put (dk_put (dk_put (dk_put (dk_put (dk_put (dk_put (dk_put (dk_put (dk_put (dk_put (dk_put (dk_put (dk_put (dk_put (dk_put (dk_put (dk_put (dk_put (dk_put (dk_put (dk_put (dk_put (dk_put (dk_put (dk_put (dk_put (dk_put (dk_put (dk_put (dk_put (dk_put (dk_put (dk_put (dk_put (dk_put (dk_put (dk_put (dk_put (dk_put (dk_put M 104 0 (nI 105)) 104 1 (nI 106)) 104 2 (nI 107)) 104 4 (nI 108)) 104 13 (nI 109)) 104 18 (nI 110)) 104 19 (nI 111)) 104 21 (nI 112)) 113 0 (-1)) 113 1 (-1)) 113 2 (-1)) 113 3 (-1)) 104 22 (nI 113)) 104 23 (nI 114)) 104 24 (nI 115)) 116 0 (nI 2)) 116 1 (nI 2)) 116 2 (nI 2)) 116 3 (nI 2)) 104 25 (nI 116)) 104 26 (nI 117)) 104 27 (nI 118)) 104 28 (nI 119)) 105 0 (nI 12)) 105 3 (nI 1)) 105 7 (nI 6)) 105 8 (nI 6)) 105 9 (nI 6)) 105 10 (nI 6)) 105 11 (nI 6)) 105 12 (nI 6)) 105 13 (nI 6)) 105 14 (nI 6)) 105 15 (nI 6)) 105 16 (nI 6)) 105 17 (nI 6)) 105 18 (nI 6)) 105 19 (nI 6)) 105 20 (nI 6)) 105 21 (nI 6)) 105 22 (nI 6))
set_option maxRecDepth 20000 in
theorem gc_X12_init_104 {d : Nat} {M : dk_Mem} {Q : dk_Mem → Prop} (hq : Q (gi_X12_init_104 M)) : gk_Call 105 120 (d + 1) mX12_init [.ref 104] M Q := by
  refine gk_enter [some (.ref 104), none] (by decide) rfl (by decide) (fun _ => rfl) (fun _ => Nat.le_of_ble_eq_true rfl) ?_
  refine gw_al0 (n := 1) dX12_init_0 rfl ?_
  refine gw_obj (n := 4) in_1253 in_119 in_120 (Nat.le_of_ble_eq_true rfl) dX12_init_1 rfl ?_
  refine gw_al0 (n := 5) dX12_init_4 rfl ?_
  refine gw_sipush (n := 8) (nI 621) dX12_init_5 (by decide) rfl ?_
  refine gw_nI (n := 10) pl_105 (by decide) (by decide) dX12_init_8 rfl ?_
  refine gw_pR (n := 13) (by decide) f_X12_9_12.1 (by rw [f_X12_9_12.2]; decide) (fun a => ⟨rfl, rfl⟩) (gk_fin cl_12 rfl rfl) pl_104 (by decide) dX12_init_10 rfl ?_
  refine gw_al0 (n := 14) dX12_init_13 rfl ?_
  refine gw_sipush (n := 17) (nI 621) dX12_init_14 (by decide) rfl ?_
  refine gw_nI (n := 19) pl_106 (by decide) (by decide) dX12_init_17 rfl ?_
  refine gw_pR (n := 22) (by decide) f_X12_13_12.1 (by rw [f_X12_13_12.2]; decide) (fun a => ⟨rfl, rfl⟩) (gk_fin cl_12 rfl rfl) pl_104 (by decide) dX12_init_19 rfl ?_
  refine gw_al0 (n := 23) dX12_init_22 rfl ?_
  refine gw_sipush (n := 26) (nI 621) dX12_init_23 (by decide) rfl ?_
  refine gw_nI (n := 28) pl_107 (by decide) (by decide) dX12_init_26 rfl ?_
  refine gw_pR (n := 31) (by decide) f_X12_16_12.1 (by rw [f_X12_16_12.2]; decide) (fun a => ⟨rfl, rfl⟩) (gk_fin cl_12 rfl rfl) pl_104 (by decide) dX12_init_28 rfl ?_
  refine gw_al0 (n := 32) dX12_init_31 rfl ?_
  refine gw_sipush (n := 35) (nI 200) dX12_init_32 (by decide) rfl ?_
  refine gw_nI (n := 37) pl_108 (by decide) (by decide) dX12_init_35 rfl ?_
  refine gw_pR (n := 40) (by decide) f_X12_19_12.1 (by rw [f_X12_19_12.2]; decide) (fun a => ⟨rfl, rfl⟩) (gk_fin cl_12 rfl rfl) pl_104 (by decide) dX12_init_37 rfl ?_
  refine gw_al0 (n := 41) dX12_init_40 rfl ?_
  refine gw_bipush (n := 43) (nI 100) dX12_init_41 (by decide) rfl ?_
  refine gw_nZ (n := 45) pl_109 (by decide) (by decide) dX12_init_43 rfl ?_
  refine gw_pR (n := 48) (by decide) f_X12_22_12.1 (by rw [f_X12_22_12.2]; decide) (fun a => ⟨rfl, rfl⟩) (gk_fin cl_12 rfl rfl) pl_104 (by decide) dX12_init_45 rfl ?_
  refine gw_al0 (n := 49) dX12_init_48 rfl ?_
  refine gw_sipush (n := 52) (nI 2484) dX12_init_49 (by decide) rfl ?_
  refine gw_nI (n := 54) pl_110 (by decide) (by decide) dX12_init_52 rfl ?_
  refine gw_pR (n := 57) (by decide) f_X12_26_12.1 (by rw [f_X12_26_12.2]; decide) (fun a => ⟨rfl, rfl⟩) (gk_fin cl_12 rfl rfl) pl_104 (by decide) dX12_init_54 rfl ?_
  refine gw_al0 (n := 58) dX12_init_57 rfl ?_
  refine gw_sipush (n := 61) (nI 621) dX12_init_58 (by decide) rfl ?_
  refine gw_nI (n := 63) pl_111 (by decide) (by decide) dX12_init_61 rfl ?_
  refine gw_pR (n := 66) (by decide) f_X12_29_12.1 (by rw [f_X12_29_12.2]; decide) (fun a => ⟨rfl, rfl⟩) (gk_fin cl_12 rfl rfl) pl_104 (by decide) dX12_init_63 rfl ?_
  refine gw_al0 (n := 67) dX12_init_66 rfl ?_
  refine gw_bipush (n := 69) (nI 12) dX12_init_67 (by decide) rfl ?_
  refine gw_nI (n := 71) pl_112 (by decide) (by decide) dX12_init_69 rfl ?_
  refine gw_pR (n := 74) (by decide) f_X12_32_12.1 (by rw [f_X12_32_12.2]; decide) (fun a => ⟨rfl, rfl⟩) (gk_fin cl_12 rfl rfl) pl_104 (by decide) dX12_init_71 rfl ?_
  refine gw_al0 (n := 75) dX12_init_74 rfl ?_
  refine gw_iconst (n := 76) (nI 4) dX12_init_75 (by decide) rfl ?_
  refine gw_nI (n := 78) pl_113 (by decide) (by decide) dX12_init_76 rfl ?_
  refine gw_dup (n := 79) rfl dX12_init_78 rfl ?_
  refine gw_iconst (n := 80) (nI 0) dX12_init_79 (by decide) rfl ?_
  refine gw_iconst (n := 81) (-1) dX12_init_80 (by decide) rfl ?_
  refine gw_ist (n := 82) (j := 0) pl_113 (by decide) rfl (by decide) (by decide) dX12_init_81 rfl ?_
  refine gw_dup (n := 83) rfl dX12_init_82 rfl ?_
  refine gw_iconst (n := 84) (nI 1) dX12_init_83 (by decide) rfl ?_
  refine gw_iconst (n := 85) (-1) dX12_init_84 (by decide) rfl ?_
  refine gw_ist (n := 86) (j := 1) pl_113 (by decide) rfl (by decide) (by decide) dX12_init_85 rfl ?_
  refine gw_dup (n := 87) rfl dX12_init_86 rfl ?_
  refine gw_iconst (n := 88) (nI 2) dX12_init_87 (by decide) rfl ?_
  refine gw_iconst (n := 89) (-1) dX12_init_88 (by decide) rfl ?_
  refine gw_ist (n := 90) (j := 2) pl_113 (by decide) rfl (by decide) (by decide) dX12_init_89 rfl ?_
  refine gw_dup (n := 91) rfl dX12_init_90 rfl ?_
  refine gw_iconst (n := 92) (nI 3) dX12_init_91 (by decide) rfl ?_
  refine gw_iconst (n := 93) (-1) dX12_init_92 (by decide) rfl ?_
  refine gw_ist (n := 94) (j := 3) pl_113 (by decide) rfl (by decide) (by decide) dX12_init_93 rfl ?_
  refine gw_pR (n := 97) (by decide) f_X12_35_12.1 (by rw [f_X12_35_12.2]; decide) (fun a => ⟨rfl, rfl⟩) (gk_fin cl_12 rfl rfl) pl_104 (by decide) dX12_init_94 rfl ?_
  refine gw_al0 (n := 98) dX12_init_97 rfl ?_
  refine gw_iconst (n := 99) (nI 4) dX12_init_98 (by decide) rfl ?_
  refine gw_nI (n := 101) pl_114 (by decide) (by decide) dX12_init_99 rfl ?_
  refine gw_pR (n := 104) (by decide) f_X12_38_12.1 (by rw [f_X12_38_12.2]; decide) (fun a => ⟨rfl, rfl⟩) (gk_fin cl_12 rfl rfl) pl_104 (by decide) dX12_init_101 rfl ?_
  refine gw_al0 (n := 105) dX12_init_104 rfl ?_
  refine gw_sipush (n := 108) (nI 160) dX12_init_105 (by decide) rfl ?_
  refine gw_nJ (n := 110) pl_115 (by decide) (by decide) dX12_init_108 rfl ?_
  refine gw_pR (n := 113) (by decide) f_X12_41_12.1 (by rw [f_X12_41_12.2]; decide) (fun a => ⟨rfl, rfl⟩) (gk_fin cl_12 rfl rfl) pl_104 (by decide) dX12_init_110 rfl ?_
  refine gw_al0 (n := 114) dX12_init_113 rfl ?_
  refine gw_iconst (n := 115) (nI 4) dX12_init_114 (by decide) rfl ?_
  refine gw_nI (n := 117) pl_116 (by decide) (by decide) dX12_init_115 rfl ?_
  refine gw_dup (n := 118) rfl dX12_init_117 rfl ?_
  refine gw_iconst (n := 119) (nI 0) dX12_init_118 (by decide) rfl ?_
  refine gw_iconst (n := 120) (nI 2) dX12_init_119 (by decide) rfl ?_
  refine gw_ist (n := 121) (j := 0) pl_116 (by decide) rfl (by decide) (by decide) dX12_init_120 rfl ?_
  refine gw_dup (n := 122) rfl dX12_init_121 rfl ?_
  refine gw_iconst (n := 123) (nI 1) dX12_init_122 (by decide) rfl ?_
  refine gw_iconst (n := 124) (nI 2) dX12_init_123 (by decide) rfl ?_
  refine gw_ist (n := 125) (j := 1) pl_116 (by decide) rfl (by decide) (by decide) dX12_init_124 rfl ?_
  refine gw_dup (n := 126) rfl dX12_init_125 rfl ?_
  refine gw_iconst (n := 127) (nI 2) dX12_init_126 (by decide) rfl ?_
  refine gw_iconst (n := 128) (nI 2) dX12_init_127 (by decide) rfl ?_
  refine gw_ist (n := 129) (j := 2) pl_116 (by decide) rfl (by decide) (by decide) dX12_init_128 rfl ?_
  refine gw_dup (n := 130) rfl dX12_init_129 rfl ?_
  refine gw_iconst (n := 131) (nI 3) dX12_init_130 (by decide) rfl ?_
  refine gw_iconst (n := 132) (nI 2) dX12_init_131 (by decide) rfl ?_
  refine gw_ist (n := 133) (j := 3) pl_116 (by decide) rfl (by decide) (by decide) dX12_init_132 rfl ?_
  refine gw_pR (n := 136) (by decide) f_X12_45_12.1 (by rw [f_X12_45_12.2]; decide) (fun a => ⟨rfl, rfl⟩) (gk_fin cl_12 rfl rfl) pl_104 (by decide) dX12_init_133 rfl ?_
  refine gw_al0 (n := 137) dX12_init_136 rfl ?_
  refine gw_iconst (n := 138) (nI 4) dX12_init_137 (by decide) rfl ?_
  refine gw_nI (n := 140) pl_117 (by decide) (by decide) dX12_init_138 rfl ?_
  refine gw_pR (n := 143) (by decide) f_X12_48_12.1 (by rw [f_X12_48_12.2]; decide) (fun a => ⟨rfl, rfl⟩) (gk_fin cl_12 rfl rfl) pl_104 (by decide) dX12_init_140 rfl ?_
  refine gw_al0 (n := 144) dX12_init_143 rfl ?_
  refine gw_iconst (n := 145) (nI 4) dX12_init_144 (by decide) rfl ?_
  refine gw_nI (n := 147) pl_118 (by decide) (by decide) dX12_init_145 rfl ?_
  refine gw_pR (n := 150) (by decide) f_X12_51_12.1 (by rw [f_X12_51_12.2]; decide) (fun a => ⟨rfl, rfl⟩) (gk_fin cl_12 rfl rfl) pl_104 (by decide) dX12_init_147 rfl ?_
  refine gw_al0 (n := 151) dX12_init_150 rfl ?_
  refine gw_bipush (n := 153) (nI 30) dX12_init_151 (by decide) rfl ?_
  refine gw_nI (n := 155) pl_119 (by decide) (by decide) dX12_init_153 rfl ?_
  refine gw_pR (n := 158) (by decide) f_X12_54_12.1 (by rw [f_X12_54_12.2]; decide) (fun a => ⟨rfl, rfl⟩) (gk_fin cl_12 rfl rfl) pl_104 (by decide) dX12_init_155 rfl ?_
  refine gw_al0 (n := 159) dX12_init_158 rfl ?_
  refine gw_gR (n := 162) f_X12_9_12.1 (by rw [f_X12_9_12.2]; decide) pl_104 (by decide) (dk_ref_i (show _ = nI 105 from rfl) (by decide)) dX12_init_159 rfl ?_
  refine gw_iconst (n := 163) (nI 0) dX12_init_162 (by decide) rfl ?_
  refine gw_bipush (n := 165) (nI 12) dX12_init_163 (by decide) rfl ?_
  refine gw_ist (n := 166) (j := 0) pl_105 (by decide) rfl (by decide) (by decide) dX12_init_165 rfl ?_
  refine gw_al0 (n := 167) dX12_init_166 rfl ?_
  refine gw_gR (n := 170) f_X12_9_12.1 (by rw [f_X12_9_12.2]; decide) pl_104 (by decide) (dk_ref_i (show _ = nI 105 from rfl) (by decide)) dX12_init_167 rfl ?_
  refine gw_iconst (n := 171) (nI 3) dX12_init_170 (by decide) rfl ?_
  refine gw_iconst (n := 172) (nI 1) dX12_init_171 (by decide) rfl ?_
  refine gw_ist (n := 173) (j := 3) pl_105 (by decide) rfl (by decide) (by decide) dX12_init_172 rfl ?_
  refine gw_iconst (n := 174) (nI 0) dX12_init_173 (by decide) rfl ?_
  refine gw_is1 (n := 175) dX12_init_174 rfl rfl (by decide) ?_
  refine gw_il1 (n := 176) dX12_init_175 rfl ?_
  refine gw_bipush (n := 178) (nI 16) dX12_init_176 (by decide) rfl ?_
  refine gw_ic_ge (n := 181) 198 dX12_init_178 (by decide) rfl (fun h => absurd h (by decide)) (fun _ => ?_)
  refine gw_al0 (n := 182) dX12_init_181 rfl ?_
  refine gw_gR (n := 185) f_X12_9_12.1 (by rw [f_X12_9_12.2]; decide) pl_104 (by decide) (dk_ref_i (show _ = nI 105 from rfl) (by decide)) dX12_init_182 rfl ?_
  refine gw_bipush (n := 187) (nI 7) dX12_init_185 (by decide) rfl ?_
  refine gw_il1 (n := 188) dX12_init_187 rfl ?_
  refine gw_iadd (n := 189) dX12_init_188 rfl ?_
  rw [nI_add]
  refine gw_bipush (n := 191) (nI 6) dX12_init_189 (by decide) rfl ?_
  refine gw_ist (n := 192) (j := 7) pl_105 (by decide) rfl (by decide) (by decide) dX12_init_191 rfl ?_
  refine gw_inc1 (n := 195) (nI 1) dX12_init_192 (by decide) rfl rfl (by decide) ?_
  rw [nI_add]
  refine gw_goto 175 dX12_init_195 (by decide) ?_
  refine gw_il1 (n := 176) dX12_init_175 rfl ?_
  refine gw_bipush (n := 178) (nI 16) dX12_init_176 (by decide) rfl ?_
  refine gw_ic_ge (n := 181) 198 dX12_init_178 (by decide) rfl (fun h => absurd h (by decide)) (fun _ => ?_)
  refine gw_al0 (n := 182) dX12_init_181 rfl ?_
  refine gw_gR (n := 185) f_X12_9_12.1 (by rw [f_X12_9_12.2]; decide) pl_104 (by decide) (dk_ref_i (show _ = nI 105 from rfl) (by decide)) dX12_init_182 rfl ?_
  refine gw_bipush (n := 187) (nI 7) dX12_init_185 (by decide) rfl ?_
  refine gw_il1 (n := 188) dX12_init_187 rfl ?_
  refine gw_iadd (n := 189) dX12_init_188 rfl ?_
  rw [nI_add]
  refine gw_bipush (n := 191) (nI 6) dX12_init_189 (by decide) rfl ?_
  refine gw_ist (n := 192) (j := 8) pl_105 (by decide) rfl (by decide) (by decide) dX12_init_191 rfl ?_
  refine gw_inc1 (n := 195) (nI 1) dX12_init_192 (by decide) rfl rfl (by decide) ?_
  rw [nI_add]
  refine gw_goto 175 dX12_init_195 (by decide) ?_
  refine gw_il1 (n := 176) dX12_init_175 rfl ?_
  refine gw_bipush (n := 178) (nI 16) dX12_init_176 (by decide) rfl ?_
  refine gw_ic_ge (n := 181) 198 dX12_init_178 (by decide) rfl (fun h => absurd h (by decide)) (fun _ => ?_)
  refine gw_al0 (n := 182) dX12_init_181 rfl ?_
  refine gw_gR (n := 185) f_X12_9_12.1 (by rw [f_X12_9_12.2]; decide) pl_104 (by decide) (dk_ref_i (show _ = nI 105 from rfl) (by decide)) dX12_init_182 rfl ?_
  refine gw_bipush (n := 187) (nI 7) dX12_init_185 (by decide) rfl ?_
  refine gw_il1 (n := 188) dX12_init_187 rfl ?_
  refine gw_iadd (n := 189) dX12_init_188 rfl ?_
  rw [nI_add]
  refine gw_bipush (n := 191) (nI 6) dX12_init_189 (by decide) rfl ?_
  refine gw_ist (n := 192) (j := 9) pl_105 (by decide) rfl (by decide) (by decide) dX12_init_191 rfl ?_
  refine gw_inc1 (n := 195) (nI 1) dX12_init_192 (by decide) rfl rfl (by decide) ?_
  rw [nI_add]
  refine gw_goto 175 dX12_init_195 (by decide) ?_
  refine gw_il1 (n := 176) dX12_init_175 rfl ?_
  refine gw_bipush (n := 178) (nI 16) dX12_init_176 (by decide) rfl ?_
  refine gw_ic_ge (n := 181) 198 dX12_init_178 (by decide) rfl (fun h => absurd h (by decide)) (fun _ => ?_)
  refine gw_al0 (n := 182) dX12_init_181 rfl ?_
  refine gw_gR (n := 185) f_X12_9_12.1 (by rw [f_X12_9_12.2]; decide) pl_104 (by decide) (dk_ref_i (show _ = nI 105 from rfl) (by decide)) dX12_init_182 rfl ?_
  refine gw_bipush (n := 187) (nI 7) dX12_init_185 (by decide) rfl ?_
  refine gw_il1 (n := 188) dX12_init_187 rfl ?_
  refine gw_iadd (n := 189) dX12_init_188 rfl ?_
  rw [nI_add]
  refine gw_bipush (n := 191) (nI 6) dX12_init_189 (by decide) rfl ?_
  refine gw_ist (n := 192) (j := 10) pl_105 (by decide) rfl (by decide) (by decide) dX12_init_191 rfl ?_
  refine gw_inc1 (n := 195) (nI 1) dX12_init_192 (by decide) rfl rfl (by decide) ?_
  rw [nI_add]
  refine gw_goto 175 dX12_init_195 (by decide) ?_
  refine gw_il1 (n := 176) dX12_init_175 rfl ?_
  refine gw_bipush (n := 178) (nI 16) dX12_init_176 (by decide) rfl ?_
  refine gw_ic_ge (n := 181) 198 dX12_init_178 (by decide) rfl (fun h => absurd h (by decide)) (fun _ => ?_)
  refine gw_al0 (n := 182) dX12_init_181 rfl ?_
  refine gw_gR (n := 185) f_X12_9_12.1 (by rw [f_X12_9_12.2]; decide) pl_104 (by decide) (dk_ref_i (show _ = nI 105 from rfl) (by decide)) dX12_init_182 rfl ?_
  refine gw_bipush (n := 187) (nI 7) dX12_init_185 (by decide) rfl ?_
  refine gw_il1 (n := 188) dX12_init_187 rfl ?_
  refine gw_iadd (n := 189) dX12_init_188 rfl ?_
  rw [nI_add]
  refine gw_bipush (n := 191) (nI 6) dX12_init_189 (by decide) rfl ?_
  refine gw_ist (n := 192) (j := 11) pl_105 (by decide) rfl (by decide) (by decide) dX12_init_191 rfl ?_
  refine gw_inc1 (n := 195) (nI 1) dX12_init_192 (by decide) rfl rfl (by decide) ?_
  rw [nI_add]
  refine gw_goto 175 dX12_init_195 (by decide) ?_
  refine gw_il1 (n := 176) dX12_init_175 rfl ?_
  refine gw_bipush (n := 178) (nI 16) dX12_init_176 (by decide) rfl ?_
  refine gw_ic_ge (n := 181) 198 dX12_init_178 (by decide) rfl (fun h => absurd h (by decide)) (fun _ => ?_)
  refine gw_al0 (n := 182) dX12_init_181 rfl ?_
  refine gw_gR (n := 185) f_X12_9_12.1 (by rw [f_X12_9_12.2]; decide) pl_104 (by decide) (dk_ref_i (show _ = nI 105 from rfl) (by decide)) dX12_init_182 rfl ?_
  refine gw_bipush (n := 187) (nI 7) dX12_init_185 (by decide) rfl ?_
  refine gw_il1 (n := 188) dX12_init_187 rfl ?_
  refine gw_iadd (n := 189) dX12_init_188 rfl ?_
  rw [nI_add]
  refine gw_bipush (n := 191) (nI 6) dX12_init_189 (by decide) rfl ?_
  refine gw_ist (n := 192) (j := 12) pl_105 (by decide) rfl (by decide) (by decide) dX12_init_191 rfl ?_
  refine gw_inc1 (n := 195) (nI 1) dX12_init_192 (by decide) rfl rfl (by decide) ?_
  rw [nI_add]
  refine gw_goto 175 dX12_init_195 (by decide) ?_
  refine gw_il1 (n := 176) dX12_init_175 rfl ?_
  refine gw_bipush (n := 178) (nI 16) dX12_init_176 (by decide) rfl ?_
  refine gw_ic_ge (n := 181) 198 dX12_init_178 (by decide) rfl (fun h => absurd h (by decide)) (fun _ => ?_)
  refine gw_al0 (n := 182) dX12_init_181 rfl ?_
  refine gw_gR (n := 185) f_X12_9_12.1 (by rw [f_X12_9_12.2]; decide) pl_104 (by decide) (dk_ref_i (show _ = nI 105 from rfl) (by decide)) dX12_init_182 rfl ?_
  refine gw_bipush (n := 187) (nI 7) dX12_init_185 (by decide) rfl ?_
  refine gw_il1 (n := 188) dX12_init_187 rfl ?_
  refine gw_iadd (n := 189) dX12_init_188 rfl ?_
  rw [nI_add]
  refine gw_bipush (n := 191) (nI 6) dX12_init_189 (by decide) rfl ?_
  refine gw_ist (n := 192) (j := 13) pl_105 (by decide) rfl (by decide) (by decide) dX12_init_191 rfl ?_
  refine gw_inc1 (n := 195) (nI 1) dX12_init_192 (by decide) rfl rfl (by decide) ?_
  rw [nI_add]
  refine gw_goto 175 dX12_init_195 (by decide) ?_
  refine gw_il1 (n := 176) dX12_init_175 rfl ?_
  refine gw_bipush (n := 178) (nI 16) dX12_init_176 (by decide) rfl ?_
  refine gw_ic_ge (n := 181) 198 dX12_init_178 (by decide) rfl (fun h => absurd h (by decide)) (fun _ => ?_)
  refine gw_al0 (n := 182) dX12_init_181 rfl ?_
  refine gw_gR (n := 185) f_X12_9_12.1 (by rw [f_X12_9_12.2]; decide) pl_104 (by decide) (dk_ref_i (show _ = nI 105 from rfl) (by decide)) dX12_init_182 rfl ?_
  refine gw_bipush (n := 187) (nI 7) dX12_init_185 (by decide) rfl ?_
  refine gw_il1 (n := 188) dX12_init_187 rfl ?_
  refine gw_iadd (n := 189) dX12_init_188 rfl ?_
  rw [nI_add]
  refine gw_bipush (n := 191) (nI 6) dX12_init_189 (by decide) rfl ?_
  refine gw_ist (n := 192) (j := 14) pl_105 (by decide) rfl (by decide) (by decide) dX12_init_191 rfl ?_
  refine gw_inc1 (n := 195) (nI 1) dX12_init_192 (by decide) rfl rfl (by decide) ?_
  rw [nI_add]
  refine gw_goto 175 dX12_init_195 (by decide) ?_
  refine gw_il1 (n := 176) dX12_init_175 rfl ?_
  refine gw_bipush (n := 178) (nI 16) dX12_init_176 (by decide) rfl ?_
  refine gw_ic_ge (n := 181) 198 dX12_init_178 (by decide) rfl (fun h => absurd h (by decide)) (fun _ => ?_)
  refine gw_al0 (n := 182) dX12_init_181 rfl ?_
  refine gw_gR (n := 185) f_X12_9_12.1 (by rw [f_X12_9_12.2]; decide) pl_104 (by decide) (dk_ref_i (show _ = nI 105 from rfl) (by decide)) dX12_init_182 rfl ?_
  refine gw_bipush (n := 187) (nI 7) dX12_init_185 (by decide) rfl ?_
  refine gw_il1 (n := 188) dX12_init_187 rfl ?_
  refine gw_iadd (n := 189) dX12_init_188 rfl ?_
  rw [nI_add]
  refine gw_bipush (n := 191) (nI 6) dX12_init_189 (by decide) rfl ?_
  refine gw_ist (n := 192) (j := 15) pl_105 (by decide) rfl (by decide) (by decide) dX12_init_191 rfl ?_
  refine gw_inc1 (n := 195) (nI 1) dX12_init_192 (by decide) rfl rfl (by decide) ?_
  rw [nI_add]
  refine gw_goto 175 dX12_init_195 (by decide) ?_
  refine gw_il1 (n := 176) dX12_init_175 rfl ?_
  refine gw_bipush (n := 178) (nI 16) dX12_init_176 (by decide) rfl ?_
  refine gw_ic_ge (n := 181) 198 dX12_init_178 (by decide) rfl (fun h => absurd h (by decide)) (fun _ => ?_)
  refine gw_al0 (n := 182) dX12_init_181 rfl ?_
  refine gw_gR (n := 185) f_X12_9_12.1 (by rw [f_X12_9_12.2]; decide) pl_104 (by decide) (dk_ref_i (show _ = nI 105 from rfl) (by decide)) dX12_init_182 rfl ?_
  refine gw_bipush (n := 187) (nI 7) dX12_init_185 (by decide) rfl ?_
  refine gw_il1 (n := 188) dX12_init_187 rfl ?_
  refine gw_iadd (n := 189) dX12_init_188 rfl ?_
  rw [nI_add]
  refine gw_bipush (n := 191) (nI 6) dX12_init_189 (by decide) rfl ?_
  refine gw_ist (n := 192) (j := 16) pl_105 (by decide) rfl (by decide) (by decide) dX12_init_191 rfl ?_
  refine gw_inc1 (n := 195) (nI 1) dX12_init_192 (by decide) rfl rfl (by decide) ?_
  rw [nI_add]
  refine gw_goto 175 dX12_init_195 (by decide) ?_
  refine gw_il1 (n := 176) dX12_init_175 rfl ?_
  refine gw_bipush (n := 178) (nI 16) dX12_init_176 (by decide) rfl ?_
  refine gw_ic_ge (n := 181) 198 dX12_init_178 (by decide) rfl (fun h => absurd h (by decide)) (fun _ => ?_)
  refine gw_al0 (n := 182) dX12_init_181 rfl ?_
  refine gw_gR (n := 185) f_X12_9_12.1 (by rw [f_X12_9_12.2]; decide) pl_104 (by decide) (dk_ref_i (show _ = nI 105 from rfl) (by decide)) dX12_init_182 rfl ?_
  refine gw_bipush (n := 187) (nI 7) dX12_init_185 (by decide) rfl ?_
  refine gw_il1 (n := 188) dX12_init_187 rfl ?_
  refine gw_iadd (n := 189) dX12_init_188 rfl ?_
  rw [nI_add]
  refine gw_bipush (n := 191) (nI 6) dX12_init_189 (by decide) rfl ?_
  refine gw_ist (n := 192) (j := 17) pl_105 (by decide) rfl (by decide) (by decide) dX12_init_191 rfl ?_
  refine gw_inc1 (n := 195) (nI 1) dX12_init_192 (by decide) rfl rfl (by decide) ?_
  rw [nI_add]
  refine gw_goto 175 dX12_init_195 (by decide) ?_
  refine gw_il1 (n := 176) dX12_init_175 rfl ?_
  refine gw_bipush (n := 178) (nI 16) dX12_init_176 (by decide) rfl ?_
  refine gw_ic_ge (n := 181) 198 dX12_init_178 (by decide) rfl (fun h => absurd h (by decide)) (fun _ => ?_)
  refine gw_al0 (n := 182) dX12_init_181 rfl ?_
  refine gw_gR (n := 185) f_X12_9_12.1 (by rw [f_X12_9_12.2]; decide) pl_104 (by decide) (dk_ref_i (show _ = nI 105 from rfl) (by decide)) dX12_init_182 rfl ?_
  refine gw_bipush (n := 187) (nI 7) dX12_init_185 (by decide) rfl ?_
  refine gw_il1 (n := 188) dX12_init_187 rfl ?_
  refine gw_iadd (n := 189) dX12_init_188 rfl ?_
  rw [nI_add]
  refine gw_bipush (n := 191) (nI 6) dX12_init_189 (by decide) rfl ?_
  refine gw_ist (n := 192) (j := 18) pl_105 (by decide) rfl (by decide) (by decide) dX12_init_191 rfl ?_
  refine gw_inc1 (n := 195) (nI 1) dX12_init_192 (by decide) rfl rfl (by decide) ?_
  rw [nI_add]
  refine gw_goto 175 dX12_init_195 (by decide) ?_
  refine gw_il1 (n := 176) dX12_init_175 rfl ?_
  refine gw_bipush (n := 178) (nI 16) dX12_init_176 (by decide) rfl ?_
  refine gw_ic_ge (n := 181) 198 dX12_init_178 (by decide) rfl (fun h => absurd h (by decide)) (fun _ => ?_)
  refine gw_al0 (n := 182) dX12_init_181 rfl ?_
  refine gw_gR (n := 185) f_X12_9_12.1 (by rw [f_X12_9_12.2]; decide) pl_104 (by decide) (dk_ref_i (show _ = nI 105 from rfl) (by decide)) dX12_init_182 rfl ?_
  refine gw_bipush (n := 187) (nI 7) dX12_init_185 (by decide) rfl ?_
  refine gw_il1 (n := 188) dX12_init_187 rfl ?_
  refine gw_iadd (n := 189) dX12_init_188 rfl ?_
  rw [nI_add]
  refine gw_bipush (n := 191) (nI 6) dX12_init_189 (by decide) rfl ?_
  refine gw_ist (n := 192) (j := 19) pl_105 (by decide) rfl (by decide) (by decide) dX12_init_191 rfl ?_
  refine gw_inc1 (n := 195) (nI 1) dX12_init_192 (by decide) rfl rfl (by decide) ?_
  rw [nI_add]
  refine gw_goto 175 dX12_init_195 (by decide) ?_
  refine gw_il1 (n := 176) dX12_init_175 rfl ?_
  refine gw_bipush (n := 178) (nI 16) dX12_init_176 (by decide) rfl ?_
  refine gw_ic_ge (n := 181) 198 dX12_init_178 (by decide) rfl (fun h => absurd h (by decide)) (fun _ => ?_)
  refine gw_al0 (n := 182) dX12_init_181 rfl ?_
  refine gw_gR (n := 185) f_X12_9_12.1 (by rw [f_X12_9_12.2]; decide) pl_104 (by decide) (dk_ref_i (show _ = nI 105 from rfl) (by decide)) dX12_init_182 rfl ?_
  refine gw_bipush (n := 187) (nI 7) dX12_init_185 (by decide) rfl ?_
  refine gw_il1 (n := 188) dX12_init_187 rfl ?_
  refine gw_iadd (n := 189) dX12_init_188 rfl ?_
  rw [nI_add]
  refine gw_bipush (n := 191) (nI 6) dX12_init_189 (by decide) rfl ?_
  refine gw_ist (n := 192) (j := 20) pl_105 (by decide) rfl (by decide) (by decide) dX12_init_191 rfl ?_
  refine gw_inc1 (n := 195) (nI 1) dX12_init_192 (by decide) rfl rfl (by decide) ?_
  rw [nI_add]
  refine gw_goto 175 dX12_init_195 (by decide) ?_
  refine gw_il1 (n := 176) dX12_init_175 rfl ?_
  refine gw_bipush (n := 178) (nI 16) dX12_init_176 (by decide) rfl ?_
  refine gw_ic_ge (n := 181) 198 dX12_init_178 (by decide) rfl (fun h => absurd h (by decide)) (fun _ => ?_)
  refine gw_al0 (n := 182) dX12_init_181 rfl ?_
  refine gw_gR (n := 185) f_X12_9_12.1 (by rw [f_X12_9_12.2]; decide) pl_104 (by decide) (dk_ref_i (show _ = nI 105 from rfl) (by decide)) dX12_init_182 rfl ?_
  refine gw_bipush (n := 187) (nI 7) dX12_init_185 (by decide) rfl ?_
  refine gw_il1 (n := 188) dX12_init_187 rfl ?_
  refine gw_iadd (n := 189) dX12_init_188 rfl ?_
  rw [nI_add]
  refine gw_bipush (n := 191) (nI 6) dX12_init_189 (by decide) rfl ?_
  refine gw_ist (n := 192) (j := 21) pl_105 (by decide) rfl (by decide) (by decide) dX12_init_191 rfl ?_
  refine gw_inc1 (n := 195) (nI 1) dX12_init_192 (by decide) rfl rfl (by decide) ?_
  rw [nI_add]
  refine gw_goto 175 dX12_init_195 (by decide) ?_
  refine gw_il1 (n := 176) dX12_init_175 rfl ?_
  refine gw_bipush (n := 178) (nI 16) dX12_init_176 (by decide) rfl ?_
  refine gw_ic_ge (n := 181) 198 dX12_init_178 (by decide) rfl (fun h => absurd h (by decide)) (fun _ => ?_)
  refine gw_al0 (n := 182) dX12_init_181 rfl ?_
  refine gw_gR (n := 185) f_X12_9_12.1 (by rw [f_X12_9_12.2]; decide) pl_104 (by decide) (dk_ref_i (show _ = nI 105 from rfl) (by decide)) dX12_init_182 rfl ?_
  refine gw_bipush (n := 187) (nI 7) dX12_init_185 (by decide) rfl ?_
  refine gw_il1 (n := 188) dX12_init_187 rfl ?_
  refine gw_iadd (n := 189) dX12_init_188 rfl ?_
  rw [nI_add]
  refine gw_bipush (n := 191) (nI 6) dX12_init_189 (by decide) rfl ?_
  refine gw_ist (n := 192) (j := 22) pl_105 (by decide) rfl (by decide) (by decide) dX12_init_191 rfl ?_
  refine gw_inc1 (n := 195) (nI 1) dX12_init_192 (by decide) rfl rfl (by decide) ?_
  rw [nI_add]
  refine gw_goto 175 dX12_init_195 (by decide) ?_
  refine gw_il1 (n := 176) dX12_init_175 rfl ?_
  refine gw_bipush (n := 178) (nI 16) dX12_init_176 (by decide) rfl ?_
  refine gw_ic_ge (n := 181) 198 dX12_init_178 (by decide) rfl (fun _ => ?_) (fun h => absurd (by decide) h)
  exact gw_ret rfl dX12_init_198 hq
