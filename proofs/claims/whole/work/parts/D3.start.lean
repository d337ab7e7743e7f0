/-! ===== classes, arrays and words at the start ===== -/
theorem lt_122 : (Cond.arrayOver (Jvm.ClassFile.FieldType.object "DominoKin$Piece")) ∈ lw_tbl := List.mem_of_getElem? (i := 122) (by decide +kernel)
theorem lt_124 : (Cond.methodLinkNest "DominoKin" (9 : Nat) ({ cls := "DominoKin$Piece", name := "<init>", desc := "()V" } : Jvm.MethodName) "DominoKin") ∈ lw_tbl := List.mem_of_getElem? (i := 124) (by decide +kernel)
theorem lt_154 : (Cond.methodLinkNest "DominoKin" (12 : Nat) ({ cls := "DominoKin$Aunt", name := "<init>", desc := "()V" } : Jvm.MethodName) "DominoKin") ∈ lw_tbl := List.mem_of_getElem? (i := 154) (by decide +kernel)
theorem lt_157 : (Cond.methodLinkNest "DominoKin$Aunt" (1 : Nat) ({ cls := "DominoKin$Piece", name := "<init>", desc := "()V" } : Jvm.MethodName) "DominoKin") ∈ lw_tbl := List.mem_of_getElem? (i := 157) (by decide +kernel)
theorem lt_166 : (Cond.methodLinkNest "DominoKin" (15 : Nat) ({ cls := "DominoKin$Father", name := "<init>", desc := "()V" } : Jvm.MethodName) "DominoKin") ∈ lw_tbl := List.mem_of_getElem? (i := 166) (by decide +kernel)
theorem lt_169 : (Cond.methodLinkNest "DominoKin$Father" (1 : Nat) ({ cls := "DominoKin$Piece", name := "<init>", desc := "()V" } : Jvm.MethodName) "DominoKin") ∈ lw_tbl := List.mem_of_getElem? (i := 169) (by decide +kernel)
theorem lt_178 : (Cond.methodLinkNest "DominoKin" (18 : Nat) ({ cls := "DominoKin$Eldest", name := "<init>", desc := "()V" } : Jvm.MethodName) "DominoKin") ∈ lw_tbl := List.mem_of_getElem? (i := 178) (by decide +kernel)
theorem lt_181 : (Cond.methodLinkNest "DominoKin$Eldest" (1 : Nat) ({ cls := "DominoKin$Father", name := "<init>", desc := "()V" } : Jvm.MethodName) "DominoKin") ∈ lw_tbl := List.mem_of_getElem? (i := 181) (by decide +kernel)
theorem lt_190 : (Cond.methodLinkNest "DominoKin" (21 : Nat) ({ cls := "DominoKin$Girl", name := "<init>", desc := "()V" } : Jvm.MethodName) "DominoKin") ∈ lw_tbl := List.mem_of_getElem? (i := 190) (by decide +kernel)
theorem lt_193 : (Cond.methodLinkNest "DominoKin$Girl" (1 : Nat) ({ cls := "DominoKin$Piece", name := "<init>", desc := "()V" } : Jvm.MethodName) "DominoKin") ∈ lw_tbl := List.mem_of_getElem? (i := 193) (by decide +kernel)
theorem lt_202 : (Cond.methodLinkNest "DominoKin" (24 : Nat) ({ cls := "DominoKin$Sailor", name := "<init>", desc := "()V" } : Jvm.MethodName) "DominoKin") ∈ lw_tbl := List.mem_of_getElem? (i := 202) (by decide +kernel)
theorem lt_205 : (Cond.methodLinkNest "DominoKin$Sailor" (1 : Nat) ({ cls := "DominoKin$Girl", name := "<init>", desc := "()V" } : Jvm.MethodName) "DominoKin") ∈ lw_tbl := List.mem_of_getElem? (i := 205) (by decide +kernel)
theorem lt_220 : (Cond.methodLinkNest "DominoKin$Street" (39 : Nat) ({ cls := "DominoKin$Moment", name := "<init>", desc := "()V" } : Jvm.MethodName) "DominoKin") ∈ lw_tbl := List.mem_of_getElem? (i := 220) (by decide +kernel)
theorem lt_242 : (Cond.methodLinkNest "DominoKin$Street" (55 : Nat) ({ cls := "DominoKin$RuleBook", name := "<init>", desc := "()V" } : Jvm.MethodName) "DominoKin") ∈ lw_tbl := List.mem_of_getElem? (i := 242) (by decide +kernel)
theorem lt_283 : (Cond.methodLinkNest "DominoKin$Street" (62 : Nat) ({ cls := "DominoKin$Reports", name := "<init>", desc := "()V" } : Jvm.MethodName) "DominoKin") ∈ lw_tbl := List.mem_of_getElem? (i := 283) (by decide +kernel)
theorem lt_397 : (Cond.arrayOver (Jvm.ClassFile.FieldType.object "DominoKin$Moment")) ∈ lw_tbl := List.mem_of_getElem? (i := 397) (by decide +kernel)
theorem lt_399 : (Cond.arrayOver (Jvm.ClassFile.FieldType.array Jvm.ClassFile.FieldType.int)) ∈ lw_tbl := List.mem_of_getElem? (i := 399) (by decide +kernel)
theorem lt_400 : (Cond.methodLinkNest "DominoKin$Planner" (30 : Nat) ({ cls := "DominoKin$Moment", name := "<init>", desc := "()V" } : Jvm.MethodName) "DominoKin") ∈ lw_tbl := List.mem_of_getElem? (i := 400) (by decide +kernel)
theorem lt_417 : (Cond.methodLinkNest "DominoKin" (58 : Nat) ({ cls := "DominoKin$Moment", name := "<init>", desc := "()V" } : Jvm.MethodName) "DominoKin") ∈ lw_tbl := List.mem_of_getElem? (i := 417) (by decide +kernel)
theorem lt_419 : (Cond.methodLinkNest "DominoKin" (73 : Nat) ({ cls := "DominoKin$RuleBook", name := "<init>", desc := "()V" } : Jvm.MethodName) "DominoKin") ∈ lw_tbl := List.mem_of_getElem? (i := 419) (by decide +kernel)
theorem lt_591 : (Cond.methodLinkNest "DominoKin$Street" (136 : Nat) ({ cls := "DominoKin", name := "isOrIsUnder", desc := "(II)Z" } : Jvm.MethodName) "DominoKin") ∈ lw_tbl := List.mem_of_getElem? (i := 591) (by decide +kernel)
theorem lt_1855 : (Cond.castable "DominoKin$Aunt" "DominoKin$Piece") ∈ lw_tbl := List.mem_of_getElem? (i := 1855) (by decide +kernel)
theorem lt_1856 : (Cond.castable "DominoKin$Father" "DominoKin$Piece") ∈ lw_tbl := List.mem_of_getElem? (i := 1856) (by decide +kernel)
theorem lt_1857 : (Cond.castable "DominoKin$Eldest" "DominoKin$Piece") ∈ lw_tbl := List.mem_of_getElem? (i := 1857) (by decide +kernel)
theorem lt_1858 : (Cond.castable "DominoKin$Girl" "DominoKin$Piece") ∈ lw_tbl := List.mem_of_getElem? (i := 1858) (by decide +kernel)
theorem lt_1859 : (Cond.castable "DominoKin$Sailor" "DominoKin$Piece") ∈ lw_tbl := List.mem_of_getElem? (i := 1859) (by decide +kernel)
theorem gk_AO_of {a : Array Value} {s : State} (hts : ∀ w ∈ lw_tbl, w.before a s = true) : gk_AO s := by
  refine ⟨va_AO.of (hts _ lt_122), va_AO.of (hts _ lt_397), over_moved (Vm.Alike.refl s.vm) (hts _ lt_399), va_Nw.of rfl (hts _ lt_1855), va_Nw.of rfl (hts _ lt_1856), va_Nw.of rfl (hts _ lt_1857), va_Nw.of rfl (hts _ lt_1858), va_Nw.of rfl (hts _ lt_1859), ?_⟩
  unfold gk_nl
  exact List.forall_mem_cons.mpr ⟨va_Nw.of rfl (hts _ lt_124), List.forall_mem_cons.mpr ⟨va_Nw.of rfl (hts _ lt_154), List.forall_mem_cons.mpr ⟨va_Nw.of rfl (hts _ lt_157), List.forall_mem_cons.mpr ⟨va_Nw.of rfl (hts _ lt_166), List.forall_mem_cons.mpr ⟨va_Nw.of rfl (hts _ lt_169), List.forall_mem_cons.mpr ⟨va_Nw.of rfl (hts _ lt_178), List.forall_mem_cons.mpr ⟨va_Nw.of rfl (hts _ lt_181), List.forall_mem_cons.mpr ⟨va_Nw.of rfl (hts _ lt_190), List.forall_mem_cons.mpr ⟨va_Nw.of rfl (hts _ lt_193), List.forall_mem_cons.mpr ⟨va_Nw.of rfl (hts _ lt_202), List.forall_mem_cons.mpr ⟨va_Nw.of rfl (hts _ lt_205), List.forall_mem_cons.mpr ⟨va_Nw.of rfl (hts _ lt_220), List.forall_mem_cons.mpr ⟨va_Nw.of rfl (hts _ lt_242), List.forall_mem_cons.mpr ⟨va_Nw.of rfl (hts _ lt_283), List.forall_mem_cons.mpr ⟨va_Nw.of rfl (hts _ lt_400), List.forall_mem_cons.mpr ⟨va_Nw.of rfl (hts _ lt_417), List.forall_mem_cons.mpr ⟨va_Nw.of rfl (hts _ lt_419), fun q h => (by cases h)⟩⟩⟩⟩⟩⟩⟩⟩⟩⟩⟩⟩⟩⟩⟩⟩⟩
theorem vwCl_len : vwCl.length = 13 := by decide +kernel
theorem lw_K {a : Array Value} {s : State} (hts : ∀ w ∈ lw_tbl, w.before a s = true) : ∃ (G : va_G) (ca : Nat → ClassId), va_K G vwCl (dk_tys ca) s := by
  have hdk : ∀ w ∈ dk_T, w.before a s = true := fun w hw => hts w (List.mem_filter.mp hw).1
  obtain ⟨c0, i0, k0⟩ := u_known (C := RX0) (T := TX0) (N := 5) hdk ws_0 (hdk _ in_153)
  obtain ⟨c1, i1, k1⟩ := u_known (C := RX1) (T := TX1) (N := 5) hdk ws_1 (hdk _ in_177)
  obtain ⟨c2, i2, k2⟩ := u_known (C := RX2) (T := TX2) (N := 5) hdk ws_2 (hdk _ in_165)
  obtain ⟨c3, i3, k3⟩ := u_known (C := RX3) (T := TX3) (N := 5) hdk ws_3 (hdk _ in_189)
  obtain ⟨c4, i4, k4⟩ := u_known (C := RX4) (T := TX4) (N := 3) hdk ws_4 (hdk _ in_219)
  obtain ⟨c5, i5, k5⟩ := u_known (C := RX5) (T := TX5) (N := 5) hdk ws_5 (hdk _ in_123)
  obtain ⟨c6, i6, k6⟩ := u_known (C := RX6) (T := TX6) (N := 4) hdk ws_6 (hdk _ in_391)
  obtain ⟨c7, i7, k7⟩ := u_known (C := RX7) (T := TX7) (N := 10) hdk ws_7 (hdk _ in_282)
  obtain ⟨c8, i8, k8⟩ := u_known (C := RX8) (T := TX8) (N := 10) hdk ws_8 (hdk _ in_241)
  obtain ⟨c9, i9, k9⟩ := u_known (C := RX9) (T := TX9) (N := 5) hdk ws_9 (hdk _ in_201)
  obtain ⟨c10, i10, k10⟩ := u_known (C := RX10) (T := TX10) (N := 15) hdk ws_10 (hdk _ in_213)
  obtain ⟨c11, i11, k11⟩ := u_known (C := RX11) (T := TX11) (N := 17) hdk ws_11 (hdk _ in_114)
  obtain ⟨c12, i12, k12⟩ := u_known (C := RX12) (T := TX12) (N := 31) hdk ws_12 (hdk _ in_1249)
  obtain ⟨a0, ka0, ko0, fa0, ha0, hb0⟩ := Cond.arrayClass_spec (hdk _ in_151)
  obtain ⟨a1, ka1, ko1, fa1, ha1, hb1⟩ := Cond.arrayClass_spec (hdk _ in_474)
  obtain ⟨a2, ka2, ko2, fa2, ha2, hb2⟩ := Cond.arrayClass_spec (hdk _ in_1348)
  obtain ⟨a3, ka3, ko3, fa3, ha3, hb3⟩ := Cond.arrayClass_spec (hdk _ in_1349)
  obtain ⟨m4, a4, ka4, fm4, hi4, ha4, hb4, fa4⟩ := Cond.arrayOver_spec (hts _ lt_397)
  obtain ⟨m5, a5, ka5, fm5, hi5, ha5, hb5, fa5⟩ := Cond.arrayOver_spec (hts _ lt_122)
  obtain ⟨m6, a6, ka6, fm6, hi6, ha6, hb6, fa6⟩ := arrayOverA_spec (hts _ lt_399)
  refine ⟨(fun i => [c0, c1, c2, c3, c4, c5, c6, c7, c8, c9, c10, c11, c12].getD i 0, fun i => [i0, i1, i2, i3, i4, i5, i6, i7, i8, i9, i10, i11, i12].getD i (fun _ => 0)), fun i => [a0, a1, a2, a3, a4, a5, a6].getD (i - 20) 0, fun c q h => ?_, fun k q h => ?_⟩
  · have hc : c < 13 := by rw [← vwCl_len]; exact (List.getElem?_eq_some_iff.mp h).1
    rcases (show c = 0 ∨ c = 1 ∨ c = 2 ∨ c = 3 ∨ c = 4 ∨ c = 5 ∨ c = 6 ∨ c = 7 ∨ c = 8 ∨ c = 9 ∨ c = 10 ∨ c = 11 ∨ c = 12 by omega) with e | e | e | e | e | e | e | e | e | e | e | e | e
    · subst e
      have e := Option.some.inj (h.symm.trans cl_0.1)
      subst e
      exact k0
    · subst e
      have e := Option.some.inj (h.symm.trans cl_1.1)
      subst e
      exact k1
    · subst e
      have e := Option.some.inj (h.symm.trans cl_2.1)
      subst e
      exact k2
    · subst e
      have e := Option.some.inj (h.symm.trans cl_3.1)
      subst e
      exact k3
    · subst e
      have e := Option.some.inj (h.symm.trans cl_4.1)
      subst e
      exact k4
    · subst e
      have e := Option.some.inj (h.symm.trans cl_5.1)
      subst e
      exact k5
    · subst e
      have e := Option.some.inj (h.symm.trans cl_6.1)
      subst e
      exact k6
    · subst e
      have e := Option.some.inj (h.symm.trans cl_7.1)
      subst e
      exact k7
    · subst e
      have e := Option.some.inj (h.symm.trans cl_8.1)
      subst e
      exact k8
    · subst e
      have e := Option.some.inj (h.symm.trans cl_9.1)
      subst e
      exact k9
    · subst e
      have e := Option.some.inj (h.symm.trans cl_10.1)
      subst e
      exact k10
    · subst e
      have e := Option.some.inj (h.symm.trans cl_11.1)
      subst e
      exact k11
    · subst e
      have e := Option.some.inj (h.symm.trans cl_12.1)
      subst e
      exact k12
  · have hk : k < 7 := (List.getElem?_eq_some_iff.mp h).1
    rcases (show k = 0 ∨ k = 1 ∨ k = 2 ∨ k = 3 ∨ k = 4 ∨ k = 5 ∨ k = 6 by omega) with e | e | e | e | e | e | e
    · subst e; cases h; exact ⟨fun n z => ⟨fun k h => (by cases h), ka0, ha0, ko0, hb0⟩, fa0⟩
    · subst e; cases h; exact ⟨fun n z => ⟨fun k h => (by cases h), ka1, ha1, ko1, hb1⟩, fa1⟩
    · subst e; cases h; exact ⟨fun n z => ⟨fun k h => (by cases h), ka2, ha2, ko2, hb2⟩, fa2⟩
    · subst e; cases h; exact ⟨fun n z => ⟨fun k h => (by cases h), ka3, ha3, ko3, hb3⟩, fa3⟩
    · subst e; cases h; exact ⟨fun n z => ⟨fun k h => (by cases h), ka4, ha4, m4, hb4⟩, ka4, m4, ha4, hb4, fm4, fa4⟩
    · subst e; cases h; exact ⟨fun n z => ⟨fun k h => (by cases h), ka5, ha5, m5, hb5⟩, ka5, m5, ha5, hb5, fm5, fa5⟩
    · subst e; cases h; exact ⟨fun n z => ⟨fun k h => (by cases h), ka6, ha6, m6, hb6⟩, fa6⟩

