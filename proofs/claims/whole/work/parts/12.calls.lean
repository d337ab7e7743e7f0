section DKC
variable {d : Nat} {μ ν : dk_Mt} {pc n idx n' ci p' : Nat} {L : List (Option Value)} {st As : List Value} {M : dk_Mem} {Q : Option Value → dk_Mem → Prop} {C : String} {T : u_T} {N : Nat} {ty0 : Nat → FieldType}
/-- what a call asks of its callee -/
def dk_S0 (ν : dk_Mt) (n' : Nat) : Prop := Cond.code ν.1 ν.2.1 ν.2.2.1 ν.2.2.2 ∈ dk_T ∧ Cond.initialized ν.1.cls ∈ dk_T ∧ (ν.1.cls ≠ "java/lang/invoke/MethodHandle" ∧ ν.1.cls ≠ "java/lang/invoke/VarHandle" ∧ (parseMethodDescriptor ν.1.desc).map (fun d => d.parameters.length) = some n') ∧ ν.2.2.1 ≤ 45
def dk_KS (own : String) (idx : Nat) (ν : dk_Mt) : Prop := Cond.methodLink own idx ν.1 ∈ dk_T ∧ Cond.static ν.1 ∈ dk_T
def dk_KN (own : String) (idx : Nat) (ν : dk_Mt) : Prop := Cond.methodLinkNest "DominoKin$Street" 136 ⟨"DominoKin", "isOrIsUnder", "(II)Z"⟩ "DominoKin" = Cond.methodLinkNest own idx ν.1 "DominoKin" ∧ Cond.static ν.1 ∈ dk_T
def dk_KV (own : String) (idx : Nat) (ν : dk_Mt) : Prop := Cond.methodLink own idx ν.1 ∈ dk_T ∧ Cond.instanceMethod ν.1 ∈ dk_T ∧ Cond.selects ν.1.cls ν.1 ν.1 ∈ dk_T
def dk_KU (own : String) (idx : Nat) (C : String) (x : MethodName) (ν : dk_Mt) (n' : Nat) : Prop := ∃ (owner : String) (b0 : ByteArray) (m0 : Nat) (r0 : Option FieldType), Cond.methodLink own idx x ∈ dk_T ∧ Cond.sameMethod x.cls owner x.name x.desc ∈ dk_T ∧ Cond.instanceMethod ⟨owner, x.name, x.desc⟩ ∈ dk_T ∧ Cond.code ⟨owner, x.name, x.desc⟩ b0 m0 r0 ∈ dk_T ∧ Cond.selects C x ν.1 ∈ dk_T ∧ Cond.instanceMethod ν.1 ∈ dk_T ∧ (owner ≠ "java/lang/invoke/MethodHandle" ∧ owner ≠ "java/lang/invoke/VarHandle" ∧ (parseMethodDescriptor x.desc).map (fun d => d.parameters.length) = some n')
def dk_KP (own : String) (idx : Nat) (ν : dk_Mt) : Prop := Cond.methodLink own idx ν.1 ∈ dk_T ∧ Cond.sameMethod ν.1.cls ν.1.cls ν.1.name ν.1.desc ∈ dk_T ∧ Cond.superclass own ν.1.cls ∈ dk_T ∧ Cond.instanceMethod ν.1 ∈ dk_T ∧ ν.1.name ≠ "<init>"
theorem dk_gd (h : dk_S0 ν n') : GoodIn dk_T (.code ν.1 ν.2.1 ν.2.2.1 ν.2.2.2 :: dk_T) := fun w hw => by
  rcases List.mem_cons.mp hw with rfl | hw
  · exact dk_good _ h.1
  · exact dk_good _ hw
theorem dk_cats (ad : Nat → Nat) (st : List Value) : ((st.map (dk_rv ad)).map fun v => v.category) = st.map Value.category := by rw [List.map_map]; exact List.map_congr_left (fun v _ => dk_rv_cat ad v)
theorem dk_toL (ad : Nat → Nat) (v : Option Value) (st : List Value) : (v.toList ++ st).map (dk_rv ad) = (v.map (dk_rv ad)).toList ++ st.map (dk_rv ad) := by cases v <;> simp
theorem dk_goesOn {p : Program} {l : Launch} {e : Env} {R : Room} {s : State} {m : MethodId} {args : Array Value} {below : List Frame} {meth : Method} {c : Code} {H : Heap} {locs : List Loc} {cells slots : Nat} {Z : State → Prop} {ls : Array Slot} {st0 rest : List Value} {a : Array Value} {ad : Nat → Nat} {ca : Nat → ClassId} {G : va_G} {A : Nat → Prop} {Q' : Option Value → dk_Mem → Prop}
    (hr : va_Run p l e R s m args below meth c H locs cells slots 0 0 (F0 m pc ls st0) rest (dk_Qc ad ca G A Q' a) A) (hS : va_S A s.heap H locs)
    (kk : ∀ (v : Option Value) (M' : dk_Mem) (H1 : Heap) (locs1 : List Loc), Q' v M' → va_P G vwCl (dk_ws ad ca M') H1 → va_D A (dk_ws ad ca M') → va_S A s.heap H1 locs1 → W p l e R s m args below meth c H1 locs1 cells slots Z (F0 m (pc + 3) ls ((v.map (dk_rv ad)).toList ++ rest))) : W p l e R s m args below meth c H locs cells slots Z (F0 m pc ls st0) := by
  intro T hT X
  obtain ⟨v, st₀, t, T', L, h0, X', hL, e1, e2, ⟨⟨v', M', hv, hq, hP, hD⟩, hz, hk⟩, stp⟩ := hr T hT X
  cases hv
  rw [h0] at hz hk
  obtain ⟨t2, a1, b1⟩ := kk v' M' T'.heap (locs ++ L) hq (by rw [e1]; exact hP) hD
    ⟨Nat.le_trans hS.1 (by rw [e1]; exact hz), fun q h1 h2 => by rw [e1, hk q (Nat.lt_of_lt_of_le h1 hS.1) h2]; exact hS.2.1 q h1 h2, fun q hq => by
      rcases List.mem_append.mp hq with h | h
      · exact hS.2.2 q h
      · exact hL q h⟩ T' rfl X'
  exact ⟨t2, stp t2 a1, b1⟩
theorem dk_pre {s : State} {H : Heap} {locs : List Loc} {ad : Nat → Nat} {ca : Nat → ClassId} {G : va_G} {A : Nat → Prop} {U : State} (hW : dk_Wo ad ca G A s H locs M) (hU : U.heap = H) (hw : s.WarmedH U.vm) : dk_Pc ad ca G A As M (As.map (dk_rv ad)).toArray U := by
  obtain ⟨wK, wP, wD, wS, wSt⟩ := hW
  exact ⟨rfl, va_K.moved hw.alike wK, by rw [hU]; exact wP, wD, wSt.to wS hU hw⟩
theorem dk_cb {R : Room} {p : Program} {l : Launch} {e : Env} {s : State} {m : MethodId} {args : Array Value} {c : Code} {cells slots : Nat} (Cx : dk_Cx p l e R s m args c μ (d + 1) cells slots) (h0 : dk_S0 ν n') (hl : Cond.methodLink μ.1.cls idx ν.1 ∈ dk_T) : CallB R s args μ.1.cls idx ν.1 ν.2.1 ν.2.2.1 ν.2.2.2 (.code ν.1 ν.2.1 ν.2.2.1 ν.2.2.2 :: dk_T) (dk_rm d) 0 0 n' := by
  obtain ⟨hx, hb, hml, hown, hts, hf1, hf2, -⟩ := Cx
  obtain ⟨g1, g2, g3, g4⟩ := id h0
  exact callB_of n' hts (dk_gd h0) rfl rfl rfl (hts _ g2) (hts _ hl) g3 ⟨hf1, by show 8 + (ν.2.2.1 + 11) + 64 * d ≤ R.locals; omega⟩

theorem w_cS (h0 : dk_S0 ν n') (h1 : dk_KS μ.1.cls idx ν) (hlen : As.length = n') (hc : (st.map Value.category).sum ≤ 8) (hd : decode μ.2.1 pc = .ok (.invokestatic idx, 3)) (hn : pc + 3 = n) (k : dk_Call d ν As M (fun v M' => dk_W (d + 1) μ n L (v.toList ++ st) M' Q)) : dk_W (d + 1) μ pc L (As.reverse ++ st) M Q := by
  subst hn
  intro p l e R s m args below meth c H locs cells slots Z ls ad ca G A Cx hL hW hK
  obtain ⟨hx, hb, hml, hown, hts, hf1, hf2, hc1, hc2⟩ := id Cx
  have wS := hW.2.2.2.1
  have hr := va_runS (p := p) (e := e) (below := below) (meth := meth) (locs := locs) (As := As.map (dk_rv ad)) (rest := st.map (dk_rv ad)) (g := F0 m pc ls ((As.reverse ++ st).map (dk_rv ad))) ⟨hx, hb, hml, hown, hts⟩ (k l ad ca G A) ⟨dk_cb Cx h0 h1.1, hts _ h1.2⟩ ⟨dk_blind, fun U hU hw => dk_pre hW hU hw⟩ rfl (by rw [List.length_map]; exact hlen) hL.1 (by simp) (lv_room (by rw [dk_cats]; exact hc)) hd ⟨hc1, hc2⟩
  exact dk_goesOn hr wS (fun v M' H1 locs1 hq hP hD hS => by
    have h := hq p l e R s m args below meth c H1 locs1 cells slots Z ls ad ca G A Cx hL ⟨hW.1, hP, hD, hS, hW.2.2.2.2⟩ hK
    rw [dk_toL] at h
    exact h)

theorem w_cN (h0 : dk_S0 ν n') (h1 : dk_KN μ.1.cls idx ν) (hlen : As.length = n') (hc : (st.map Value.category).sum ≤ 8) (hd : decode μ.2.1 pc = .ok (.invokestatic idx, 3)) (hn : pc + 3 = n) (k : dk_Call d ν As M (fun v M' => dk_W (d + 1) μ n L (v.toList ++ st) M' Q)) : dk_W (d + 1) μ pc L (As.reverse ++ st) M Q := by
  subst hn
  intro p l e R s m args below meth c H locs cells slots Z ls ad ca G A Cx hL hW hK
  obtain ⟨hx, hb, hml, hown, hts, hf1, hf2, hc1, hc2⟩ := id Cx
  have wS := hW.2.2.2.1
  have hr := va_runSN (p := p) (e := e) (below := below) (meth := meth) (locs := locs) (As := As.map (dk_rv ad)) (rest := st.map (dk_rv ad)) (g := F0 m pc ls ((As.reverse ++ st).map (dk_rv ad))) ⟨hx, hb, hml, hown, hts⟩ (k l ad ca G A) ⟨va_cnB n' hts (dk_gd h0) rfl rfl rfl (h1.1 ▸ hW.2.2.2.2.2.2.2.2.2.2.2.2) (hts _ h0.2.1) h0.2.2.1 ⟨hf1, by have := h0.2.2.2; show 8 + (ν.2.2.1 + 11) + 64 * d ≤ R.locals; omega⟩, hts _ h1.2, trivial⟩ ⟨dk_blind, fun U hU hw => dk_pre hW hU hw⟩ rfl (by rw [List.length_map]; exact hlen) hL.1 (by simp) (lv_room (by rw [dk_cats]; exact hc)) hd ⟨hc1, hc2⟩
  exact dk_goesOn hr wS (fun v M' H1 locs1 hq hP hD hS => by
    have h := hq p l e R s m args below meth c H1 locs1 cells slots Z ls ad ca G A Cx hL ⟨hW.1, hP, hD, hS, hW.2.2.2.2⟩ hK
    rw [dk_toL] at h
    exact h)

theorem w_cV (hs : dk_is p' ci) (hcl : dk_CL ci ν.1.cls T N ty0) (h0 : dk_S0 ν n') (h1 : dk_KV μ.1.cls idx ν) (hlen : As.length = n') (hc : (st.map Value.category).sum ≤ 8) (hd : decode μ.2.1 pc = .ok (.invokevirtual idx, 3)) (hn : pc + 3 = n) (k : dk_Call d ν (.ref p' :: As) M (fun v M' => dk_W (d + 1) μ n L (v.toList ++ st) M' Q)) : dk_W (d + 1) μ pc L (As.reverse ++ .ref p' :: st) M Q := by
  subst hn
  intro p l e R s m args below meth c H locs cells slots Z ls ad ca G A Cx hL hW hK
  obtain ⟨hx, hb, hml, hown, hts, hf1, hf2, hc1, hc2⟩ := id Cx
  have wS := hW.2.2.2.1
  have hrec := va_recv hW.1 hW.2.1 hcl.1 (q0 := p') (a := ad p') (fs := dk_fs ad M p' ci) (by rw [dk_ws_at hs.2, dk_cell_o hs.1 hcl.2.2.1])
  have hr := va_runV (p := p) (e := e) (below := below) (meth := meth) (locs := locs) (b := ad p') (As := As.map (dk_rv ad)) (rest := st.map (dk_rv ad)) (g := F0 m pc ls ((As.reverse ++ .ref p' :: st).map (dk_rv ad))) ⟨hx, hb, hml, hown, hts⟩ (k l ad ca G A) ⟨dk_cb Cx h0 h1.1, hts _ h1.2.1, hts _ h1.2.2⟩ ⟨dk_blind, hrec, fun U hU hw => dk_pre (As := .ref p' :: As) hW hU hw⟩ rfl (by rw [List.length_map]; exact hlen) hL.1 (by simp [dk_rv]) (lv_room (by rw [dk_cats]; exact hc)) hd ⟨hc1, hc2⟩
  exact dk_goesOn hr wS (fun v M' H1 locs1 hq hP hD hS => by
    have h := hq p l e R s m args below meth c H1 locs1 cells slots Z ls ad ca G A Cx hL ⟨hW.1, hP, hD, hS, hW.2.2.2.2⟩ hK
    rw [dk_toL] at h
    exact h)

theorem w_cU (hs : dk_is p' ci) (hcl : dk_CL ci C T N ty0) (h0 : dk_S0 ν n') {x : MethodName} (h1 : dk_KU μ.1.cls idx C x ν n') (hlen : As.length = n') (hc : (st.map Value.category).sum ≤ 8) (hd : decode μ.2.1 pc = .ok (.invokevirtual idx, 3)) (hn : pc + 3 = n) (k : dk_Call d ν (.ref p' :: As) M (fun v M' => dk_W (d + 1) μ n L (v.toList ++ st) M' Q)) : dk_W (d + 1) μ pc L (As.reverse ++ .ref p' :: st) M Q := by
  subst hn
  intro p l e R s m args below meth c H locs cells slots Z ls ad ca G A Cx hL hW hK
  obtain ⟨hx, hb, hml, hown, hts, hf1, hf2, hc1, hc2⟩ := id Cx
  have wS := hW.2.2.2.1
  have hrec := va_recv hW.1 hW.2.1 hcl.1 (q0 := p') (a := ad p') (fs := dk_fs ad M p' ci) (by rw [dk_ws_at hs.2, dk_cell_o hs.1 hcl.2.2.1])
  obtain ⟨owner, b0, m0, r0, k1, k2, k3, k4, k5, k6, k7⟩ := h1
  have hcu : va_CU R s args μ.1.cls C owner idx x ν.1 ν.2.1 ν.2.2.1 ν.2.2.2 (.code ν.1 ν.2.1 ν.2.2.1 ν.2.2.2 :: dk_T) (dk_rm d) 0 0 n' := by
    have hl45 := h0.2.2.2
    refine ⟨⟨rfl, rfl, hf1, by show 8 + (ν.2.2.1 + 11) + 64 * d ≤ R.locals; omega, pay_in hts (dk_gd h0), List.mem_cons_self⟩, hts _ h0.1, hts _ h0.2.1, ⟨k7.1, k7.2.1⟩, fun sig h => ?_, hts _ k1, hts _ k2, va_Decl.of (hts _ k3) (hts _ k4), hts _ k5, hts _ k6⟩
    have h2 := k7.2.2
    rw [h] at h2
    exact (Option.some.inj h2).symm
  have hr := va_runU (p := p) (e := e) (below := below) (meth := meth) (locs := locs) (b := ad p') (As := As.map (dk_rv ad)) (rest := st.map (dk_rv ad)) (g := F0 m pc ls ((As.reverse ++ .ref p' :: st).map (dk_rv ad))) ⟨hx, hb, hml, hown, hts⟩ (k l ad ca G A) hcu ⟨dk_blind, hrec, fun U hU hw => dk_pre (As := .ref p' :: As) hW hU hw⟩ rfl (by rw [List.length_map]; exact hlen) hL.1 (by simp [dk_rv]) (lv_room (by rw [dk_cats]; exact hc)) hd ⟨hc1, hc2⟩
  exact dk_goesOn hr wS (fun v M' H1 locs1 hq hP hD hS => by
    have h := hq p l e R s m args below meth c H1 locs1 cells slots Z ls ad ca G A Cx hL ⟨hW.1, hP, hD, hS, hW.2.2.2.2⟩ hK
    rw [dk_toL] at h
    exact h)

theorem w_cP (hs : dk_is p' ci) (hcl : dk_CL ci C T N ty0) (h0 : dk_S0 ν n') (h1 : dk_KP μ.1.cls idx ν) (hlen : As.length = n') (hc : (st.map Value.category).sum ≤ 8) (hd : decode μ.2.1 pc = .ok (.invokespecial idx, 3)) (hn : pc + 3 = n) (k : dk_Call d ν (.ref p' :: As) M (fun v M' => dk_W (d + 1) μ n L (v.toList ++ st) M' Q)) : dk_W (d + 1) μ pc L (As.reverse ++ .ref p' :: st) M Q := by
  subst hn
  intro p l e R s m args below meth c H locs cells slots Z ls ad ca G A Cx hL hW hK
  obtain ⟨hx, hb, hml, hown, hts, hf1, hf2, hc1, hc2⟩ := id Cx
  have wS := hW.2.2.2.1
  have hrec := va_recv hW.1 hW.2.1 hcl.1 (q0 := p') (a := ad p') (fs := dk_fs ad M p' ci) (by rw [dk_ws_at hs.2, dk_cell_o hs.1 hcl.2.2.1])
  have hcu : va_CS R s args μ.1.cls idx ν.1 ν.2.1 ν.2.2.1 ν.2.2.2 (.code ν.1 ν.2.1 ν.2.2.1 ν.2.2.2 :: dk_T) (dk_rm d) 0 0 n' := by
    have hl45 := h0.2.2.2
    refine ⟨⟨rfl, rfl, hf1, by show 8 + (ν.2.2.1 + 11) + 64 * d ≤ R.locals; omega, pay_in hts (dk_gd h0), List.mem_cons_self⟩, hts _ h1.1, hts _ h1.2.1, hts _ h1.2.2.1, hts _ h1.2.2.2.1, hts _ h0.2.1, hts _ h0.1, h1.2.2.2.2, fun sig h => ?_⟩
    have h2 := h0.2.2.1.2.2
    rw [h] at h2
    exact (Option.some.inj h2).symm
  have hr := va_runSU (hW.1.1 ci _ hcl.1).2 (p := p) (e := e) (below := below) (meth := meth) (locs := locs) (b := ad p') (As := As.map (dk_rv ad)) (rest := st.map (dk_rv ad)) (g := F0 m pc ls ((As.reverse ++ .ref p' :: st).map (dk_rv ad))) ⟨hx, hb, hml, hown, hts⟩ (k l ad ca G A) hcu ⟨dk_blind, hrec, fun U hU hw => dk_pre (As := .ref p' :: As) hW hU hw⟩ rfl (by rw [List.length_map]; exact hlen) hL.1 (by simp [dk_rv]) (lv_room (by rw [dk_cats]; exact hc)) hd ⟨hc1, hc2⟩
  exact dk_goesOn hr wS (fun v M' H1 locs1 hq hP hD hS => by
    have h := hq p l e R s m args below meth c H1 locs1 cells slots Z ls ad ca G A Cx hL ⟨hW.1, hP, hD, hS, hW.2.2.2.2⟩ hK
    rw [dk_toL] at h
    exact h)

end DKC
