/-! ===== what the start gives of the places that nobody writes ===== -/
theorem lt_595 : (Cond.laysStatic "DominoKin" "LINEAGE" "[I") ∈ lw_tbl := List.mem_of_getElem? (i := 595) (by decide +kernel)
theorem lt_699 : (Cond.laysStatic "java/lang/String" "COMPACT_STRINGS" "Z") ∈ lw_tbl := List.mem_of_getElem? (i := 699) (by decide +kernel)
theorem lt_715 : (Cond.laysStatic "jdk/internal/util/Preconditions" "SIOOBE_FORMATTER" "Ljava/util/function/BiFunction;") ∈ lw_tbl := List.mem_of_getElem? (i := 715) (by decide +kernel)
theorem lt_1512 : (Cond.laysStatic "DominoKinModel" "NAMES" "[I") ∈ lw_tbl := List.mem_of_getElem? (i := 1512) (by decide +kernel)
theorem lt_689 : (Cond.stringRef "DominoKin$RuleBook" (81 : Nat) "piece aunt father eldest girl sailor if say stand hold or and not year lean gap word number ") ∈ lw_tbl := List.mem_of_getElem? (i := 689) (by decide +kernel)
def gv_1 : List Cond := flatC (Jvm.Cond.and given_1 narrow_1)
def t_lin : Term := .static "DominoKin" "LINEAGE" "[I"
def t_nam : Term := .static "DominoKinModel" "NAMES" "[I"
def t_str : Term := .string "DominoKin$RuleBook" 81
def t_val : Term := .field t_str "java/lang/String" "value" "[B"
theorem gv_lin3 : (gv_1.drop 7).take 6 = (List.range 6).map (fun j => Cond.eq (.elem t_lin (.int (Int32.ofNat j))) (.int (dk_lin j))) := by decide +kernel
theorem gv_nam3 : (gv_1.drop 21).take 126 = (List.range 126).map (fun j => Cond.eq (.elem t_nam (.int (Int32.ofNat j))) (.int (dk_nam j))) := by decide +kernel
theorem gv_str3 : (gv_1.drop 172).take 92 = (List.range 92).map (fun j => Cond.eq (.elem t_val (.int (Int32.ofNat j))) (.int (dk_bytL.getD j 0))) := by decide +kernel
theorem gv_tk {k n j : Nat} {f : Nat → Cond} (h : (gv_1.drop k).take n = (List.range n).map f) (hj : j < n) : f j ∈ gv_1 := List.mem_of_mem_drop (List.mem_of_mem_take (by rw [h]; exact List.mem_map.mpr ⟨j, List.mem_range.mpr hj, rfl⟩))
theorem gv_lin : Cond.arrayOf t_lin .int ∈ gv_1 ∧ Cond.eq (.length t_lin) (.int 6) ∈ gv_1 ∧ ∀ j, j < 6 → Cond.eq (.elem t_lin (.int (Int32.ofNat j))) (.int (dk_lin j)) ∈ gv_1 := ⟨List.mem_of_getElem? (i := 5) (by decide +kernel), List.mem_of_getElem? (i := 6) (by decide +kernel), fun j hj => gv_tk gv_lin3 hj⟩
theorem gv_nam : Cond.arrayOf t_nam .int ∈ gv_1 ∧ Cond.eq (.length t_nam) (.int 126) ∈ gv_1 ∧ ∀ j, j < 126 → Cond.eq (.elem t_nam (.int (Int32.ofNat j))) (.int (dk_nam j)) ∈ gv_1 := ⟨List.mem_of_getElem? (i := 19) (by decide +kernel), List.mem_of_getElem? (i := 20) (by decide +kernel), fun j hj => gv_tk gv_nam3 hj⟩
theorem gv_str : Cond.exactly t_str "java/lang/String" ∈ gv_1 ∧ Cond.eq (.field t_str "java/lang/String" "coder" "B") (.int 0) ∈ gv_1 ∧ Cond.arrayOf t_val .byte ∈ gv_1 ∧ Cond.eq (.length t_val) (.int 92) ∈ gv_1 ∧ ∀ j, j < 92 → Cond.eq (.elem t_val (.int (Int32.ofNat j))) (.int (dk_bytL.getD j 0)) ∈ gv_1 := ⟨List.mem_of_getElem? (i := 168) (by decide +kernel), List.mem_of_getElem? (i := 169) (by decide +kernel), List.mem_of_getElem? (i := 170) (by decide +kernel), List.mem_of_getElem? (i := 171) (by decide +kernel), fun j hj => gv_tk gv_str3 hj⟩
theorem gv_oth : Cond.eq (.static "java/lang/String" "COMPACT_STRINGS" "Z") (.int 1) ∈ gv_1 ∧ Cond.isRef (.static "jdk/internal/util/Preconditions" "SIOOBE_FORMATTER" "Ljava/util/function/BiFunction;") ∈ gv_1 := ⟨List.mem_of_getElem? (i := 13) (by decide +kernel), List.mem_of_getElem? (i := 14) (by decide +kernel)⟩
theorem lw_St {b : Nat} {s : State} (hts : ∀ w ∈ lw_tbl, w.before #[Value.ref b] s = true) (hgv : (Jvm.Cond.and given_1 narrow_1).before #[Value.ref b] s = true) : ∃ t0 t1 k v : Nat, ∀ ad : Nat → Nat, ad 200 = t0 → ad 201 = t1 → ad 202 = k → ad 203 = v → dk_St ad (fun q => s.heap.size ≤ q) s := by
  have hs : ∀ w ∈ gv_1, w.before #[Value.ref b] s = true := flat_of_before _ hgv
  have hdk : ∀ w ∈ dk_T, w.before #[Value.ref b] s = true := fun w hw => hts w (List.mem_filter.mp hw).1
  have hA : ∀ a : Nat, a < s.heap.size → ¬ (fun q => s.heap.size ≤ q) a := fun a h => Nat.not_le.mpr h
  obtain ⟨l1, l2, l3⟩ := gv_lin
  obtain ⟨n1, n2, n3⟩ := gv_nam
  obtain ⟨s1, s2, s3, s4, s5⟩ := gv_str
  obtain ⟨o1, o2⟩ := gv_oth
  obtain ⟨t0, e0, h0⟩ := va_Tof (tm := t_lin) (ty := .int) (N := 6) (f := fun j => .int (dk_lin j)) (by decide) (hs _ l1) (va_eqt (hs _ l2)) (fun j hj => va_eqt (hs _ (l3 j hj))) hA
  obtain ⟨t1, e1, h1⟩ := va_Tof (tm := t_nam) (ty := .int) (N := 126) (f := fun j => .int (dk_nam j)) (by decide) (hs _ n1) (va_eqt (hs _ n2)) (fun j hj => va_eqt (hs _ (n3 j hj))) hA
  obtain ⟨adK, adV, hS, hev⟩ := vk_Sof (args := #[Value.ref b]) (s := s) (N := 1) (tm := fun _ => t_str) (len := [92]) (byt := [dk_bytL]) (A := fun q => s.heap.size ≤ q) (fun i hi => by rw [show i = 0 by omega]; decide) (fun i hi => hs _ s1) (fun i hi => hs _ s2) (fun i hi => hs _ s3) (fun i hi => by rw [show i = 0 by omega]; exact hs _ s4) (fun i hi j hj => by rw [show i = 0 by omega] at hj ⊢; exact hs _ (s5 j hj)) (fun i j hi hj hne => absurd (show i = j by omega) hne) hA
  refine ⟨t0, t1, adK 0, adV 0, fun ad a0 a1 a2 a3 => ⟨?_, ?_, ?_, ?_, ?_, ?_, ?_, ?_, ?_⟩⟩
  · rw [a0]; exact va_Zref (hts _ lt_595) (hdk _ in_92) e0 hA
  · rw [a0]; exact h0
  · rw [a1]; exact va_Zref (hts _ lt_1512) (hdk _ in_105) e1 hA
  · rw [a1]; exact h1
  · rw [a2]; exact vk_R.of (hts _ lt_689) (hev 0 (by omega))
  · obtain ⟨q1, q2⟩ := hS
    refine ⟨fun i hi => ?_, fun i j hi hj _ => by omega⟩
    have ei : i = 0 := by omega
    subst ei
    show va_O _ (ad 202) _ _ _ ∧ va_OF _ _ _ _ (ad 202) _ _ _ ∧ va_OF _ _ _ (.ref (ad 203)) (ad 202) _ _ _ ∧ va_T _ (ad 203) _ _ _ _ _
    rw [a2, a3]
    exact q1 0 (by omega)
  · exact va_Zof (hts _ lt_699) (hdk _ in_107) (va_eqi (hs _ o1)) hA
  · exact va_Zqof (hts _ lt_715) (hdk _ in_109) (hs _ o2) hA
  · exact va_Nw.of rfl (hts _ lt_591)
theorem lw_whole (hMu : gk_Mu) {p : Program} {e : Env} {s : State} {m : MethodId} {below : List Frame} {meth : Method} {c : Code} (l : Launch) {b L : Nat} {xs : Nat → Int32} (hL : L ≤ 2560) (C0 : lw_At p s m meth c b L xs) : W p l e room_1 s m #[Value.ref b] below meth c s.heap [] 0 0 (lw_Z below #[Value.ref b] s) (entryFrame m ([Value.ref b] : List Value).toArray 4) := by
  obtain ⟨G, ca, hK⟩ := lw_K C0.2.2.2.2.2.1
  obtain ⟨t0, t1, k, v, hSt⟩ := lw_St C0.2.2.2.2.2.1 C0.2.2.2.2.2.2.2.2.2
  exact lw_core hMu l hL C0 (ad := fun q => if q < 120 then s.heap.size + q else if q = 200 then t0 else if q = 201 then t1 else if q = 202 then k else if q = 203 then v else b) (fun q hq => if_pos hq) rfl hK (hSt _ rfl rfl rfl rfl) (gk_AO_of C0.2.2.2.2.2.1)

