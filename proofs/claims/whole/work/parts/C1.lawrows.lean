/-! ===== the law's own walk: the same rows, with the script at the place 300 ===== -/
abbrev mL_law : dk_Mt := (⟨RL, "law", "([I)Z"⟩, cL_law, 4, some .boolean)
def dk_V (sl : Nat) (sx : Nat → Int32) (d : Nat) (μ : dk_Mt) (pc : Nat) (L : List (Option Value)) (st : List Value) (M : dk_Mem) (Q : Option Value → dk_Mem → Prop) : Prop :=
  ∀ (p : Program) (l : Launch) (e : Env) (R : Room) (s : State) (m : MethodId) (args : Array Value) (below : List Frame) (meth : Method) (c : Code) (H : Heap) (locs : List Loc) (cells slots : Nat) (Z : State → Prop) (ls : Array Slot) (ad : Nat → Nat) (ca : Nat → ClassId) (G : va_G) (A : Nat → Prop),
    dk_Cx p l e R s m args c μ d cells slots → dk_Lv ad L ls μ.2.2.1 → dk_Wo ad ca G A s H locs M →
    (∀ (v : Option Value) (M' : dk_Mem) (H' : Heap) (locs' : List Loc), Q v M' → dk_Wo ad ca G A s H' locs' M' → dk_K p l e R s m args below meth c H' locs' cells slots Z μ (v.map (dk_rv ad))) →
    (va_X (ad 300) sl sx s s.heap ∧ ad 300 < s.heap.size ∧ ¬ A (ad 300)) →
    W p l e R s m args below meth c H locs cells slots Z (F0 m pc ls (st.map (dk_rv ad)))
section DKV
variable {sl : Nat} {sx : Nat → Int32} {d : Nat} {μ ν : dk_Mt} {pc n idx n' ci p' : Nat} {L : List (Option Value)} {st As : List Value} {M : dk_Mem} {Q : Option Value → dk_Mem → Prop} {C : String} {T : u_T} {N : Nat} {ty0 : Nat → FieldType} {a1 a2 a3 a4 : Value}

theorem lj_iconst {i : Int} (v : Int32) (hd : decode μ.2.1 pc = .ok (.iconst i, 1)) (hv : Int32.ofInt i = v) (hn : pc + 1 = n) (k : dk_V sl sx d μ n L (.int v :: st) M Q) : dk_V sl sx d μ pc L (st) M Q := by
  subst hn
  exact fun p l e R s m args below meth c H locs cells slots Z ls ad ca G A C hL hW hK hF => lv_iconst (v := v) C.1 C.2.1 hd hv (k p l e R s m args below meth c H locs cells slots Z ls ad ca G A C hL hW hK hF)

theorem lj_bipush {i : Int} (v : Int32) (hd : decode μ.2.1 pc = .ok (.bipush i, 2)) (hv : (Int8.ofInt i).toInt32 = v) (hn : pc + 2 = n) (k : dk_V sl sx d μ n L (.int v :: st) M Q) : dk_V sl sx d μ pc L (st) M Q := by
  subst hn
  exact fun p l e R s m args below meth c H locs cells slots Z ls ad ca G A C hL hW hK hF => lv_bipush (v := v) C.1 C.2.1 hd hv (k p l e R s m args below meth c H locs cells slots Z ls ad ca G A C hL hW hK hF)

theorem lj_ldc2 {i : Nat} {v : Int64} (hc : Cond.constantLong μ.1.cls i v ∈ dk_T) (hd : decode μ.2.1 pc = .ok (.ldc2_w i, 3)) (hn : pc + 3 = n) (k : dk_V sl sx d μ n L (.long v :: st) M Q) : dk_V sl sx d μ pc L (st) M Q := by
  subst hn
  exact fun p l e R s m args below meth c H locs cells slots Z ls ad ca G A C hL hW hK hF => lv_ldc2 C.1 C.2.1 C.2.2.2.1 (C.2.2.2.2.1 _ hc) hd (k p l e R s m args below meth c H locs cells slots Z ls ad ca G A C hL hW hK hF)

theorem lj_iadd {x y : Int32} (hd : decode μ.2.1 pc = .ok (.iadd, 1)) (hn : pc + 1 = n) (k : dk_V sl sx d μ n L (.int (x + y) :: st) M Q) : dk_V sl sx d μ pc L (.int y :: .int x :: st) M Q := by
  subst hn
  exact fun p l e R s m args below meth c H locs cells slots Z ls ad ca G A C hL hW hK hF => lv_iadd C.1 C.2.1 hd (k p l e R s m args below meth c H locs cells slots Z ls ad ca G A C hL hW hK hF)

theorem lj_isub {x y : Int32} (hd : decode μ.2.1 pc = .ok (.isub, 1)) (hn : pc + 1 = n) (k : dk_V sl sx d μ n L (.int (x - y) :: st) M Q) : dk_V sl sx d μ pc L (.int y :: .int x :: st) M Q := by
  subst hn
  exact fun p l e R s m args below meth c H locs cells slots Z ls ad ca G A C hL hW hK hF => lv_isub C.1 C.2.1 hd (k p l e R s m args below meth c H locs cells slots Z ls ad ca G A C hL hW hK hF)

theorem lj_iand {x y : Int32} (hd : decode μ.2.1 pc = .ok (.iand, 1)) (hn : pc + 1 = n) (k : dk_V sl sx d μ n L (.int (x &&& y) :: st) M Q) : dk_V sl sx d μ pc L (.int y :: .int x :: st) M Q := by
  subst hn
  exact fun p l e R s m args below meth c H locs cells slots Z ls ad ca G A C hL hW hK hF => lv_iand C.1 C.2.1 hd (k p l e R s m args below meth c H locs cells slots Z ls ad ca G A C hL hW hK hF)

theorem lj_i2l {x : Int32} (hd : decode μ.2.1 pc = .ok (.i2l, 1)) (hn : pc + 1 = n) (k : dk_V sl sx d μ n L (.long (x.toInt64) :: st) M Q) : dk_V sl sx d μ pc L (.int x :: st) M Q := by
  subst hn
  exact fun p l e R s m args below meth c H locs cells slots Z ls ad ca G A C hL hW hK hF => lv_i2l C.1 C.2.1 hd rfl (k p l e R s m args below meth c H locs cells slots Z ls ad ca G A C hL hW hK hF)

theorem lj_lshl {x : Int64} {y : Int32} (hd : decode μ.2.1 pc = .ok (.lshl, 1)) (hn : pc + 1 = n) (k : dk_V sl sx d μ n L (.long (x <<< (y.toInt64 &&& 63)) :: st) M Q) : dk_V sl sx d μ pc L (.int y :: .long x :: st) M Q := by
  subst hn
  exact fun p l e R s m args below meth c H locs cells slots Z ls ad ca G A C hL hW hK hF => lv_lshl C.1 C.2.1 hd rfl (k p l e R s m args below meth c H locs cells slots Z ls ad ca G A C hL hW hK hF)

theorem lj_land {x y : Int64} (hd : decode μ.2.1 pc = .ok (.land, 1)) (hn : pc + 1 = n) (k : dk_V sl sx d μ n L (.long (x &&& y) :: st) M Q) : dk_V sl sx d μ pc L (.long y :: .long x :: st) M Q := by
  subst hn
  exact fun p l e R s m args below meth c H locs cells slots Z ls ad ca G A C hL hW hK hF => lv_land C.1 C.2.1 hd (k p l e R s m args below meth c H locs cells slots Z ls ad ca G A C hL hW hK hF)

theorem lj_lor {x y : Int64} (hd : decode μ.2.1 pc = .ok (.lor, 1)) (hn : pc + 1 = n) (k : dk_V sl sx d μ n L (.long (x ||| y) :: st) M Q) : dk_V sl sx d μ pc L (.long y :: .long x :: st) M Q := by
  subst hn
  exact fun p l e R s m args below meth c H locs cells slots Z ls ad ca G A C hL hW hK hF => lv_lor C.1 C.2.1 hd (k p l e R s m args below meth c H locs cells slots Z ls ad ca G A C hL hW hK hF)

theorem lj_ic_eq {x y : Int32} {off : Int} (tgt : Nat) (hd : decode μ.2.1 pc = .ok (.if_icmp .eq off, 3)) (ht : (pc : Int) + off = (tgt : Int)) (hn : pc + 3 = n) (kt : x = y → dk_V sl sx d μ tgt L st M Q) (kf : ¬ x = y → dk_V sl sx d μ n L st M Q) : dk_V sl sx d μ pc L (.int y :: .int x :: st) M Q := by
  subst hn
  exact fun p l e R s m args below meth c H locs cells slots Z ls ad ca G A C hL hW hK hF => lv_icmp_eq (tgt := tgt) C.1 C.2.1 hd ht (fun h => (kt h p l e R s m args below meth c H locs cells slots Z ls ad ca G A C hL hW hK hF)) (fun h => (kf h p l e R s m args below meth c H locs cells slots Z ls ad ca G A C hL hW hK hF))

theorem lj_ic_gt {x y : Int32} {off : Int} (tgt : Nat) (hd : decode μ.2.1 pc = .ok (.if_icmp .gt off, 3)) (ht : (pc : Int) + off = (tgt : Int)) (hn : pc + 3 = n) (kt : y < x → dk_V sl sx d μ tgt L st M Q) (kf : ¬ y < x → dk_V sl sx d μ n L st M Q) : dk_V sl sx d μ pc L (.int y :: .int x :: st) M Q := by
  subst hn
  exact fun p l e R s m args below meth c H locs cells slots Z ls ad ca G A C hL hW hK hF => lv_icmp_gt (tgt := tgt) C.1 C.2.1 hd ht (fun h => (kt h p l e R s m args below meth c H locs cells slots Z ls ad ca G A C hL hW hK hF)) (fun h => (kf h p l e R s m args below meth c H locs cells slots Z ls ad ca G A C hL hW hK hF))

theorem lj_goto {off : Int} (tgt : Nat) (hd : decode μ.2.1 pc = .ok (.goto off, 3)) (ht : (pc : Int) + off = (tgt : Int)) (k : dk_V sl sx d μ tgt L st M Q) : dk_V sl sx d μ pc L st M Q :=
  fun p l e R s m args below meth c H locs cells slots Z ls ad ca G A C hL hW hK hF => lv_goto (tgt := tgt) C.1 C.2.1 hd ht (k p l e R s m args below meth c H locs cells slots Z ls ad ca G A C hL hW hK hF)

theorem lj_tabIn {dflt lo hi : Int} {offs : Array Int} {len : Nat} {x : Int32} {off : Int} (tgt : Nat) (hd : decode μ.2.1 pc = .ok (.tableswitch dflt lo hi offs, len)) (h1 : ¬ x.toInt < lo) (h2 : ¬ hi < x.toInt) (ho : offs[(x.toInt - lo).toNat]? = some off) (ht : (pc : Int) + off = (tgt : Int)) (k : dk_V sl sx d μ tgt L st M Q) : dk_V sl sx d μ pc L (.int x :: st) M Q :=
  fun p l e R s m args below meth c H locs cells slots Z ls ad ca G A C hL hW hK hF => lv_tableIn (tgt := tgt) C.1 C.2.1 hd h1 h2 ho ht (k p l e R s m args below meth c H locs cells slots Z ls ad ca G A C hL hW hK hF)

theorem lj_tabOut {dflt lo hi : Int} {offs : Array Int} {len : Nat} {x : Int32} (tgt : Nat) (hd : decode μ.2.1 pc = .ok (.tableswitch dflt lo hi offs, len)) (h : x.toInt < lo ∨ hi < x.toInt) (ht : (pc : Int) + dflt = (tgt : Int)) (k : dk_V sl sx d μ tgt L st M Q) : dk_V sl sx d μ pc L (.int x :: st) M Q :=
  fun p l e R s m args below meth c H locs cells slots Z ls ad ca G A C hL hW hK hF => lv_tableOut (tgt := tgt) C.1 C.2.1 hd h ht (k p l e R s m args below meth c H locs cells slots Z ls ad ca G A C hL hW hK hF)

theorem lj_al0 {x : Nat} (hd : decode μ.2.1 pc = .ok (.aload_n 0, 1)) (hn : pc + 1 = n) (k : dk_V sl sx d μ n (some (.ref x) :: L) (.ref x :: st) M Q) : dk_V sl sx d μ pc (some (.ref x) :: L) st M Q := by
  subst hn
  exact fun p l e R s m args below meth c H locs cells slots Z ls ad ca G A C hL hW hK hF => lv_aload_n C.1 C.2.1 hd rfl (hL.at (i := 0) rfl) (k p l e R s m args below meth c H locs cells slots Z ls ad ca G A C hL hW hK hF)

theorem lj_al1 {a0 : Option Value} {x : Nat} (hd : decode μ.2.1 pc = .ok (.aload_n 1, 1)) (hn : pc + 1 = n) (k : dk_V sl sx d μ n (a0 :: some (.ref x) :: L) (.ref x :: st) M Q) : dk_V sl sx d μ pc (a0 :: some (.ref x) :: L) st M Q := by
  subst hn
  exact fun p l e R s m args below meth c H locs cells slots Z ls ad ca G A C hL hW hK hF => lv_aload_n C.1 C.2.1 hd rfl (hL.at (i := 1) rfl) (k p l e R s m args below meth c H locs cells slots Z ls ad ca G A C hL hW hK hF)

theorem lj_al2 {a0 a1 : Option Value} {x : Nat} (hd : decode μ.2.1 pc = .ok (.aload_n 2, 1)) (hn : pc + 1 = n) (k : dk_V sl sx d μ n (a0 :: a1 :: some (.ref x) :: L) (.ref x :: st) M Q) : dk_V sl sx d μ pc (a0 :: a1 :: some (.ref x) :: L) st M Q := by
  subst hn
  exact fun p l e R s m args below meth c H locs cells slots Z ls ad ca G A C hL hW hK hF => lv_aload_n C.1 C.2.1 hd rfl (hL.at (i := 2) rfl) (k p l e R s m args below meth c H locs cells slots Z ls ad ca G A C hL hW hK hF)

theorem lj_il3 {a0 a1 a2 : Option Value} {x : Int32} (hd : decode μ.2.1 pc = .ok (.iload_n 3, 1)) (hn : pc + 1 = n) (k : dk_V sl sx d μ n (a0 :: a1 :: a2 :: some (.int x) :: L) (.int x :: st) M Q) : dk_V sl sx d μ pc (a0 :: a1 :: a2 :: some (.int x) :: L) st M Q := by
  subst hn
  exact fun p l e R s m args below meth c H locs cells slots Z ls ad ca G A C hL hW hK hF => lv_iload_n C.1 C.2.1 hd rfl (hL.at (i := 3) rfl) (k p l e R s m args below meth c H locs cells slots Z ls ad ca G A C hL hW hK hF)

theorem lj_is3 {a0 a1 a2 : Option Value} {b : Option Value} {x : Int32} (hd : decode μ.2.1 pc = .ok (.istore_n 3, 1)) (hn : pc + 1 = n) (hx : dk_nl a2 = true) (hi : 3 < μ.2.2.1) (k : dk_V sl sx d μ n (a0 :: a1 :: a2 :: some (.int x) :: L) st M Q) : dk_V sl sx d μ pc (a0 :: a1 :: a2 :: b :: L) (.int x :: st) M Q := by
  subst hn
  exact fun p l e R s m args below meth c H locs cells slots Z ls ad ca G A C hL hW hK hF => lv_istore_n C.1 C.2.1 hd rfl hL hi rfl (fun ls' h' => (k p l e R s m args below meth c H locs cells slots Z ls' ad ca G A C (dk_Lv.set (v := .int x) (L := a0 :: a1 :: a2 :: b :: L) (i := 3) (by simp) (fun a _ h => by cases h; exact hx) h') hW hK hF))

theorem lj_inc3 {a0 a1 a2 : Option Value} {x : Int32} {z : Int} (v : Int32) (hd : decode μ.2.1 pc = .ok (.iinc 3 z, 3)) (hv : Int32.ofInt z = v) (hn : pc + 3 = n) (hx : dk_nl a2 = true) (hi : 3 < μ.2.2.1) (k : dk_V sl sx d μ n (a0 :: a1 :: a2 :: some (.int (x + v)) :: L) st M Q) : dk_V sl sx d μ pc (a0 :: a1 :: a2 :: some (.int x) :: L) st M Q := by
  subst hn
  intro p l e R s m args below meth c H locs cells slots Z ls ad ca G A C hL hW hK hF
  obtain ⟨q, hq⟩ := List.getElem?_of_mem ((dk_prs_mem (ad := ad) (a0 :: a1 :: a2 :: some (.int x) :: L) 0 3 (.int x)).mpr ⟨3, .int x, rfl, rfl, rfl⟩)
  exact lv_iinc (v := x + v) C.1 C.2.1 hd hL hq (by rw [hv]) hi rfl (fun ls' h' => (k p l e R s m args below meth c H locs cells slots Z ls' ad ca G A C (dk_Lv.set (v := .int (x + v)) (L := a0 :: a1 :: a2 :: some (.int x) :: L) (i := 3) (by simp) (fun a _ h => by cases h; exact hx) h') hW hK hF))

theorem lj_iret {x : Int32} {ty : FieldType} (hd : decode μ.2.1 pc = .ok (.ireturn, 1)) (hr : μ.2.2.2 = some ty) (hx : narrow ty (.int x) = .int x) (hq : Q (some (.int x)) M) : dk_V sl sx d μ pc L [.int x] M Q :=
  fun p l e R s m args below meth c H locs cells slots Z ls ad ca G A C hL hW hK hF => hK _ _ _ _ hq hW pc ls (Or.inr ⟨x, rfl, hd, ty, hr, hx⟩)

theorem lj_retZ0 (hd : decode μ.2.1 pc = .ok (.ireturn, 1)) (hr : μ.2.2.2 = some .boolean) (hq : Q (some (.int 0)) M) : dk_V sl sx d μ pc L [.int 0] M Q := lj_iret hd hr rfl hq

theorem lj_retZ1 (hd : decode μ.2.1 pc = .ok (.ireturn, 1)) (hr : μ.2.2.2 = some .boolean) (hq : Q (some (.int 1)) M) : dk_V sl sx d μ pc L [.int 1] M Q := lj_iret hd hr rfl hq

theorem lj_cV (hs : dk_is p' ci) (hcl : dk_CL ci ν.1.cls T N ty0) (h0 : dk_S0 ν n') (h1 : dk_KV μ.1.cls idx ν) (hlen : As.length = n') (hc : (st.map Value.category).sum ≤ 8) (hd : decode μ.2.1 pc = .ok (.invokevirtual idx, 3)) (hn : pc + 3 = n) (k : dk_Call d ν (.ref p' :: As) M (fun v M' => dk_V sl sx (d + 1) μ n L (v.toList ++ st) M' Q)) : dk_V sl sx (d + 1) μ pc L (As.reverse ++ .ref p' :: st) M Q := by
  subst hn
  intro p l e R s m args below meth c H locs cells slots Z ls ad ca G A Cx hL hW hK hF
  obtain ⟨hx, hb, hml, hown, hts, hf1, hf2, hc1, hc2⟩ := id Cx
  have wS := hW.2.2.2.1
  have hrec := va_recv hW.1 hW.2.1 hcl.1 (q0 := p') (a := ad p') (fs := dk_fs ad M p' ci) (by rw [dk_ws_at hs.2, dk_cell_o hs.1 hcl.2.2.1])
  have hr := va_runV (p := p) (e := e) (below := below) (meth := meth) (locs := locs) (b := ad p') (As := As.map (dk_rv ad)) (rest := st.map (dk_rv ad)) (g := F0 m pc ls ((As.reverse ++ .ref p' :: st).map (dk_rv ad))) ⟨hx, hb, hml, hown, hts⟩ (k l ad ca G A) ⟨dk_cb Cx h0 h1.1, hts _ h1.2.1, hts _ h1.2.2⟩ ⟨dk_blind, hrec, fun U hU hw => dk_pre (As := .ref p' :: As) hW hU hw⟩ rfl (by rw [List.length_map]; exact hlen) hL.1 (by simp [dk_rv]) (lv_room (by rw [dk_cats]; exact hc)) hd ⟨hc1, hc2⟩
  exact dk_goesOn hr wS (fun v M' H1 locs1 hq hP hD hS => by
    have h := hq p l e R s m args below meth c H1 locs1 cells slots Z ls ad ca G A Cx hL ⟨hW.1, hP, hD, hS, hW.2.2.2.2⟩ hK hF
    rw [dk_toL] at h
    exact h)

theorem lj_cV0 (hs : dk_is p' ci) (hcl : dk_CL ci ν.1.cls T N ty0) (h0 : dk_S0 ν 0) (h1 : dk_KV μ.1.cls idx ν) (hc : (st.map Value.category).sum ≤ 8) (hd : decode μ.2.1 pc = .ok (.invokevirtual idx, 3)) (hn : pc + 3 = n) (k : dk_Call d ν (.ref p' :: []) M (fun v M' => dk_V sl sx (d + 1) μ n L (v.toList ++ st) M' Q)) : dk_V sl sx (d + 1) μ pc L (.ref p' :: st) M Q := lj_cV (As := []) hs hcl h0 h1 rfl hc hd hn k

theorem lj_cV1 (hs : dk_is p' ci) (hcl : dk_CL ci ν.1.cls T N ty0) (h0 : dk_S0 ν 1) (h1 : dk_KV μ.1.cls idx ν) (hc : (st.map Value.category).sum ≤ 8) (hd : decode μ.2.1 pc = .ok (.invokevirtual idx, 3)) (hn : pc + 3 = n) (k : dk_Call d ν (.ref p' :: [a1]) M (fun v M' => dk_V sl sx (d + 1) μ n L (v.toList ++ st) M' Q)) : dk_V sl sx (d + 1) μ pc L (a1 :: .ref p' :: st) M Q := lj_cV (As := [a1]) hs hcl h0 h1 rfl hc hd hn k

theorem lj_cV2 (hs : dk_is p' ci) (hcl : dk_CL ci ν.1.cls T N ty0) (h0 : dk_S0 ν 2) (h1 : dk_KV μ.1.cls idx ν) (hc : (st.map Value.category).sum ≤ 8) (hd : decode μ.2.1 pc = .ok (.invokevirtual idx, 3)) (hn : pc + 3 = n) (k : dk_Call d ν (.ref p' :: [a1, a2]) M (fun v M' => dk_V sl sx (d + 1) μ n L (v.toList ++ st) M' Q)) : dk_V sl sx (d + 1) μ pc L (a2 :: a1 :: .ref p' :: st) M Q := lj_cV (As := [a1, a2]) hs hcl h0 h1 rfl hc hd hn k

theorem lj_cV3 (hs : dk_is p' ci) (hcl : dk_CL ci ν.1.cls T N ty0) (h0 : dk_S0 ν 3) (h1 : dk_KV μ.1.cls idx ν) (hc : (st.map Value.category).sum ≤ 8) (hd : decode μ.2.1 pc = .ok (.invokevirtual idx, 3)) (hn : pc + 3 = n) (k : dk_Call d ν (.ref p' :: [a1, a2, a3]) M (fun v M' => dk_V sl sx (d + 1) μ n L (v.toList ++ st) M' Q)) : dk_V sl sx (d + 1) μ pc L (a3 :: a2 :: a1 :: .ref p' :: st) M Q := lj_cV (As := [a1, a2, a3]) hs hcl h0 h1 rfl hc hd hn k

theorem lj_cV4 (hs : dk_is p' ci) (hcl : dk_CL ci ν.1.cls T N ty0) (h0 : dk_S0 ν 4) (h1 : dk_KV μ.1.cls idx ν) (hc : (st.map Value.category).sum ≤ 8) (hd : decode μ.2.1 pc = .ok (.invokevirtual idx, 3)) (hn : pc + 3 = n) (k : dk_Call d ν (.ref p' :: [a1, a2, a3, a4]) M (fun v M' => dk_V sl sx (d + 1) μ n L (v.toList ++ st) M' Q)) : dk_V sl sx (d + 1) μ pc L (a4 :: a3 :: a2 :: a1 :: .ref p' :: st) M Q := lj_cV (As := [a1, a2, a3, a4]) hs hcl h0 h1 rfl hc hd hn k

theorem lj_sld {i : Int32} (hin : vp_in i sl) (hd : decode μ.2.1 pc = .ok (.iaload, 1)) (hn : pc + 1 = n) (k : dk_V sl sx d μ n L (.int (sx i.toNatClampNeg) :: st) M Q) : dk_V sl sx d μ pc L (.int i :: .ref 300 :: st) M Q := by
  subst hn
  exact fun p l e R s m args below meth c H locs cells slots Z ls ad ca G A C hL hW hK hF => va_sld C.1 C.2.1 hF.1 hF.2.1 hF.2.2 hW.2.2.2.1 hin hd (k p l e R s m args below meth c H locs cells slots Z ls ad ca G A C hL hW hK hF)
theorem lj_slen (hd : decode μ.2.1 pc = .ok (.arraylength, 1)) (hn : pc + 1 = n) (k : dk_V sl sx d μ n L (.int (nI sl) :: st) M Q) : dk_V sl sx d μ pc L (.ref 300 :: st) M Q := by
  subst hn
  exact fun p l e R s m args below meth c H locs cells slots Z ls ad ca G A C hL hW hK hF => va_slen C.1 C.2.1 hF.1 hF.2.1 hF.2.2 hW.2.2.2.1 hd (k p l e R s m args below meth c H locs cells slots Z ls ad ca G A C hL hW hK hF)
end DKV
