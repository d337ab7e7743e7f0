/-! ===== super.m(..) where the superclass inherits m from its own superclass ===== -/
theorem dk_sub2 {vm : Vm} {a b : ClassId} {k : Class} (hk : vm.classes[a]? = some k) (hs : k.super = some b) : vm.isSubclass a b = true := by
  have hl : a < vm.classes.size := (Array.getElem?_eq_some_iff.mp hk).1
  obtain ⟨n, hn⟩ : ∃ n, vm.classes.size = n + 1 := ⟨vm.classes.size - 1, (Nat.sub_add_cancel (Nat.succ_le_of_lt (Nat.lt_of_le_of_lt (Nat.zero_le a) hl))).symm⟩
  unfold Vm.isSubclass
  rw [hn]
  simp [Vm.isSubclassAux, hk, hs]
section DKQ
variable {p : Program} {l : Launch} {e : Env} {R : Room} {s : State} {m : MethodId} {args : Array Value} {below : List Frame} {meth : Method} {c : Code} {H : Heap} {locs : List Loc} {cells slots : Nat}
/-- the words of such a call: x as the code names it, y the method that it is -/
def dk_CQ (R : Room) (s : State) (args : Array Value) (own : String) (index : Nat) (x y : MethodName) (bytes : ByteArray) (maxL : Nat) (ret : Option FieldType) (ws : List Cond) (rm : Room) (mc ms n : Nat) : Prop :=
  (rm.cells = mc ∧ rm.slots = ms ∧ rm.frames + 1 ≤ R.frames ∧ 8 + (maxL + 11) + rm.locals ≤ R.locals ∧ (∀ w ∈ ws, ∀ (a' : Array Value) (U : State), s.WarmedH U.vm → w.before a' U = true) ∧ Cond.code y bytes maxL ret ∈ ws) ∧
  (Cond.methodLink own index x).before args s = true ∧ (Cond.sameMethod x.cls y.cls x.name x.desc).before args s = true ∧ (Cond.superclass own x.cls).before args s = true ∧ (Cond.superclass x.cls y.cls).before args s = true ∧ (Cond.instanceMethod y).before args s = true ∧ (Cond.initialized y.cls).before args s = true ∧ (Cond.code y bytes maxL ret).before args s = true ∧ x.name ≠ "<init>" ∧ y = ⟨y.cls, x.name, x.desc⟩ ∧ (∀ sig, parseMethodDescriptor y.desc = some sig → n = sig.parameters.length)
theorem dk_runSQ {x y : MethodName} {bytes cc : ByteArray} {maxL nL mc ms n index : Nat} {ret : Option FieldType} {ws : List Cond} {rm : Room} {Pc : Array Value → State → Prop} {Qc : Array Value → State → Outcome → State → Prop} {free : Addr → Prop} {Ts : List Cond} {own C : String} {cC : ClassId} {b : Addr} {As rest : List Value} {g : JFrame}
    (hat : ClassAt s C cC) (S : CallFix p m c cc nL s args Ts own) (hM : Met l y ws rm Pc Qc mc ms free) (cw : dk_CQ R s args own index x y bytes maxL ret ws rm mc ms n) (hp : PreV s H C b Pc As)
    (hg : g.method = m) (hn : As.length = n) (hsize : g.locals.size = nL) (hstack : g.stack = As.reverse ++ .ref b :: rest) (hW : 2 * g.monitorRoom + (rest.map fun v => v.category).sum ≤ 8) (hdg : decode cc g.pc = .ok (.invokespecial index, 3)) (hf : cells + mc ≤ R.cells ∧ slots + ms ≤ R.slots) :
    va_Run p l e R s m args below meth c H locs cells slots mc ms g rest (Qc (Value.ref b :: As).toArray) (free) := by
  obtain ⟨⟨hrc, hrs, hfr, hlo, hws, hcw⟩, hl1, hl2, hl3, hl3b, hl4, hini, hcode, hno, hyx, hlen⟩ := cw
  have hK : Back l R p e below s args y 3 8 (PreOf R mc ms Pc) (PostOf Qc mc ms free) := back_of (bytes := bytes) (maxL := maxL) (ret := ret) hM hp.1 hrc hrs hfr hlo hws hcw (fun a' U hW => word_at hW (Or.inl (by first | rfl | simp [Cond.onTables, Cond.keeps, Cond.steady])) hini)
  obtain ⟨hx, hb, hml, ho, -⟩ := S
  obtain ⟨-, ⟨cellB, hcB, hoB, hclB⟩, hPc⟩ := hp
  obtain ⟨hfc, kB, hkB, -⟩ := hat
  cases hfc.symm.trans hclB
  obtain ⟨mk, methM, hnamed, hmethM, hstM, habM⟩ := Cond.instanceMethod_spec hl4
  obtain ⟨methM', cM, hmethM', -, -, -, -, -, -, hsigM⟩ := Cond.code_spec hnamed hcode
  cases hmethM.symm.trans hmethM'
  obtain ⟨ps, dk, kp, hps, hdk, hkp, hsuper, -, -, hnid⟩ := Cond.superclass_spec ho hl3
  obtain ⟨p2, k2, kp2, hp2, hk2, hkp2, hsuper2, -, -, -⟩ := Cond.superclass_spec hps hl3b
  have hnm : s.methodNamed? ⟨y.cls, x.name, x.desc⟩ = some mk := by rw [← hyx]; exact hnamed
  have hpm : p2 = mk.cls := Option.some.inj (hp2.symm.trans (findClass_of_methodNamed hnamed))
  have hsub : s.vm.isSubclass ps mk.cls = true := dk_sub2 hk2 (by rw [← hpm]; exact hsuper2)
  intro T hT X
  have hcell : T.heap[b]? = some cellB := by rw [hT]; exact hcB
  obtain ⟨vm₁, X₁, hstep₁⟩ := X.invokespecialUp hx ho hl1 hl2 hnm hmethM hstM habM hno hdk hnid hps hsuper hsub (a := b) (cell := cellB) hcell
    (fun z h => by rw [h] at hoB; cases hoB) hkB (g := g) hg (argsL := As) (rest := rest) (hn.trans (hlen _ hsigM)) hstack (by rw [hb]; exact hdg)
  obtain ⟨v, ⟨U', l2, c2, s2⟩, X', hpost, st0⟩ := hK m meth c ⟨T.setVm vm₁, locs, cells, slots⟩ { g with stack := rest } (.invokespecial index) mk (Value.ref b :: As).toArray X₁ hg (hsize.trans hml.symm) (by rw [hb]; exact hdg) hW (X₁.named hnamed) ⟨hf.1, hf.2, hPc (T.setVm vm₁) hT X₁.warmed⟩
  obtain ⟨g', mk', t, L, e1, e2, hq, h1, hL, h2, h3⟩ := hpost
  dsimp only [Pt.U, Pt.locs, Pt.cells, Pt.slots] at X' e1 e2 h1 h2 h3 st0
  subst h1; subst h2; subst h3
  exact ⟨v, (T.setVm vm₁).calling g' mk' (Value.ref b :: As).toArray, t, U', L, hT, X', hL, e1, e2, hq, fun target h => hstep₁ _ (by rw [doInvoke_state]; exact st0.trans h)⟩
end DKQ
section DKQ2
variable {d : Nat} {μ ν : dk_Mt} {pc n idx n' ci p' : Nat} {L : List (Option Value)} {st As : List Value} {M : dk_Mem} {Q : Option Value → dk_Mem → Prop} {C : String} {T : u_T} {N : Nat} {ty0 : Nat → FieldType}
def dk_KQ (own : String) (idx : Nat) (x : MethodName) (ν : dk_Mt) : Prop := Cond.methodLink own idx x ∈ dk_T ∧ Cond.sameMethod x.cls ν.1.cls x.name x.desc ∈ dk_T ∧ Cond.superclass own x.cls ∈ dk_T ∧ Cond.superclass x.cls ν.1.cls ∈ dk_T ∧ Cond.instanceMethod ν.1 ∈ dk_T ∧ x.name ≠ "<init>" ∧ ν.1 = ⟨ν.1.cls, x.name, x.desc⟩

theorem w_cQ (hs : dk_is p' ci) (hcl : dk_CL ci C T N ty0) (h0 : dk_S0 ν n') {x : MethodName} (h1 : dk_KQ μ.1.cls idx x ν) (hlen : As.length = n') (hc : (st.map Value.category).sum ≤ 8) (hd : decode μ.2.1 pc = .ok (.invokespecial idx, 3)) (hn : pc + 3 = n) (k : dk_Call d ν (.ref p' :: As) M (fun v M' => dk_W (d + 1) μ n L (v.toList ++ st) M' Q)) : dk_W (d + 1) μ pc L (As.reverse ++ .ref p' :: st) M Q := by
  subst hn
  intro p l e R s m args below meth c H locs cells slots Z ls ad ca G A Cx hL hW hK
  obtain ⟨hx, hb, hml, hown, hts, hf1, hf2, hc1, hc2⟩ := id Cx
  have wS := hW.2.2.2.1
  have hrec := va_recv hW.1 hW.2.1 hcl.1 (q0 := p') (a := ad p') (fs := dk_fs ad M p' ci) (by rw [dk_ws_at hs.2, dk_cell_o hs.1 hcl.2.2.1])
  have hcu : dk_CQ R s args μ.1.cls idx x ν.1 ν.2.1 ν.2.2.1 ν.2.2.2 (.code ν.1 ν.2.1 ν.2.2.1 ν.2.2.2 :: dk_T) (dk_rm d) 0 0 n' := by
    have hl45 := h0.2.2.2
    refine ⟨⟨rfl, rfl, hf1, by show 8 + (ν.2.2.1 + 11) + 64 * d ≤ R.locals; omega, pay_in hts (dk_gd h0), List.mem_cons_self⟩, hts _ h1.1, hts _ h1.2.1, hts _ h1.2.2.1, hts _ h1.2.2.2.1, hts _ h1.2.2.2.2.1, hts _ h0.2.1, hts _ h0.1, h1.2.2.2.2.2.1, h1.2.2.2.2.2.2, fun sig h => ?_⟩
    have h2 := h0.2.2.1.2.2
    rw [h] at h2
    exact (Option.some.inj h2).symm
  have hr := dk_runSQ (hW.1.1 ci _ hcl.1).2 (p := p) (e := e) (below := below) (meth := meth) (locs := locs) (b := ad p') (As := As.map (dk_rv ad)) (rest := st.map (dk_rv ad)) (g := F0 m pc ls ((As.reverse ++ .ref p' :: st).map (dk_rv ad))) ⟨hx, hb, hml, hown, hts⟩ (k l ad ca G A) hcu ⟨dk_blind, hrec, fun U hU hw => dk_pre (As := .ref p' :: As) hW hU hw⟩ rfl (by rw [List.length_map]; exact hlen) hL.1 (by simp [dk_rv]) (lv_room (by rw [dk_cats]; exact hc)) hd ⟨hc1, hc2⟩
  exact dk_goesOn hr wS (fun v M' H1 locs1 hq hP hD hS => by
    have h := hq p l e R s m args below meth c H1 locs1 cells slots Z ls ad ca G A Cx hL ⟨hW.1, hP, hD, hS, hW.2.2.2.2⟩ hK
    rw [dk_toL] at h
    exact h)

end DKQ2
theorem w_cQ1 {d : Nat} {μ ν : dk_Mt} {pc n idx ci p' : Nat} {L : List (Option Value)} {st : List Value} {M : dk_Mem} {Q : Option Value → dk_Mem → Prop} {C : String} {T : u_T} {N : Nat} {ty0 : Nat → FieldType} {a1 : Value} (hs : dk_is p' ci) (hcl : dk_CL ci C T N ty0) (h0 : dk_S0 ν 1) {x : MethodName} (h1 : dk_KQ μ.1.cls idx x ν) (hc : (st.map Value.category).sum ≤ 8) (hd : decode μ.2.1 pc = .ok (.invokespecial idx, 3)) (hn : pc + 3 = n) (k : dk_Call d ν (.ref p' :: [a1]) M (fun v M' => dk_W (d + 1) μ n L (v.toList ++ st) M' Q)) : dk_W (d + 1) μ pc L (a1 :: .ref p' :: st) M Q := w_cQ (As := [a1]) hs hcl h0 h1 rfl hc hd hn k
theorem in_1137 : (Cond.methodLink "DominoKin$Eldest" (21 : Nat) ({ cls := "DominoKin$Father", name := "tips", desc := "(I)I" } : Jvm.MethodName)) ∈ dk_T := dk_in (i := 1137) (by decide +kernel) rfl
theorem in_1138 : (Cond.sameMethod "DominoKin$Father" "DominoKin$Piece" "tips" "(I)I") ∈ dk_T := dk_in (i := 1138) (by decide +kernel) rfl
theorem kq_X1_21 : dk_KQ RX1 21 ⟨"DominoKin$Father", "tips", "(I)I"⟩ mX5_tips := ⟨in_1137, in_1138, in_187, in_175, in_1118, by decide, rfl⟩
theorem in_1202 : (Cond.methodLink "DominoKin$Eldest" (25 : Nat) ({ cls := "DominoKin$Father", name := "turns", desc := "(I)I" } : Jvm.MethodName)) ∈ dk_T := dk_in (i := 1202) (by decide +kernel) rfl
theorem in_1203 : (Cond.sameMethod "DominoKin$Father" "DominoKin$Piece" "turns" "(I)I") ∈ dk_T := dk_in (i := 1203) (by decide +kernel) rfl
theorem kq_X1_25 : dk_KQ RX1 25 ⟨"DominoKin$Father", "turns", "(I)I"⟩ mX5_turns := ⟨in_1202, in_1203, in_187, in_175, in_1195, by decide, rfl⟩
theorem in_1166 : (Cond.methodLink "DominoKin$Sailor" (21 : Nat) ({ cls := "DominoKin$Girl", name := "taps", desc := "(I)I" } : Jvm.MethodName)) ∈ dk_T := dk_in (i := 1166) (by decide +kernel) rfl
theorem in_1167 : (Cond.sameMethod "DominoKin$Girl" "DominoKin$Piece" "taps" "(I)I") ∈ dk_T := dk_in (i := 1167) (by decide +kernel) rfl
theorem kq_X9_21 : dk_KQ RX9 21 ⟨"DominoKin$Girl", "taps", "(I)I"⟩ mX5_taps := ⟨in_1166, in_1167, in_211, in_199, in_1146, by decide, rfl⟩