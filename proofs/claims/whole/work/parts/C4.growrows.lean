/-! ===== making arrays; constructors as contracts ===== -/
section GKN
variable {n0 nx d : Nat} {μ ν : dk_Mt} {pc n idx n' ci p' np : Nat} {L : List (Option Value)} {st As : List Value} {M : dk_Mem} {Q : dk_Mem → Prop} {C : String} {T : u_T} {N : Nat} {ty0 : Nat → FieldType}
theorem gw_newa {atype : ArrayType} {t kt : Nat} {ty : FieldType} (hty : newarray.typeOf atype = ty) (htx : ∀ ca, (dk_tys ca)[kt]? = some (ca t, ty)) (hra : ∀ (U : State) (cA : ClassId), va_RA U cA ty → U.vm.findClass ("[" ++ ty.toString) = some cA) (hby : N * componentBytes ty ≤ 536870912) (hN : N < 2 ^ 31) (hcell : ∀ (ad : Nat → Nat) (ca : Nat → ClassId) (M : dk_Mem), M.1 np = gk_M0.1 np → M.2 np = gk_M0.2 np → ∃ a, gk_cell ad ca M np = .inl (ca t, a) ∧ ∀ cA : ClassId, vp_cell cA a = arrV cA N (fun _ => defaultValue ty)) (hz : gk_z np = N) (hx9 : np < nx) (w : Cond.arrayClass ty ∈ dk_T) (hd : decode μ.2.1 pc = .ok (.newarray atype, 2)) (hn : pc + 2 = n) (kk : gk_W n0 nx d μ n L (.ref np :: st) M (np + 1) Q) : gk_W n0 nx d μ pc L (.int (nI N) :: st) M np Q := by
  subst hn
  subst hty
  intro p l e R s m args below meth c H locs cells slots Z ls ad ca G A C hL hW hK
  refine gk_size hW (fun hsz => ?_)
  obtain ⟨hx, hb, hml, hown, hts, hr1, hr2, hr3, hr4, hnm, h120⟩ := id C
  obtain ⟨wK, wP, wD, wS, i1, i3, i4, i5, i6, i7, i8, i9, iA⟩ := id hW
  have hsl : gk_sl (np + 1) = gk_sl np + N := by rw [gk_sl, hz]
  have hle := gk_sl_le (show np + 1 ≤ nx by omega)
  have hle0 := gk_sl_le i3
  have hadn : ad np = H.size := by rw [i1 np (by omega), hsz]
  refine va_newaK hx hb (hts _ w) rfl hd rfl (nI_lt0 hN) (nI_clamp hN) hby (by omega) (by omega) rfl fun H1 cA e1 z1 o1 hAr hNm => ?_
  have ecA : cA = ca t := Option.some.inj (hNm.symm.trans (hra s _ (wK.2 kt _ (htx ca)).2))
  subst ecA
  obtain ⟨a, ha, hv⟩ := hcell ad ca M (i6 np (Nat.le_refl _)).1 (i6 np (Nat.le_refl _)).2
  have hnew : va_at G vwCl (ad np, gk_cell ad ca M np) H1 := by
    rw [ha, hadn]
    show H1[H.size]? = some (vp_cell _ _)
    rw [hv]
    exact e1
  have r := kk p l e R s m args below meth c H1 locs (cells + 1) (slots + gk_z np) Z ls ad ca G A C hL (gk_grow hW (by omega) hsz z1 o1 hnew) hK
  rw [hz] at r
  rw [← hadn]
  exact r
theorem gw_anew {t kt : Nat} {E : String} (htx : ∀ ca, (dk_tys ca)[kt]? = some (ca t, .object E)) (hao : ∀ U, gk_AO U → va_AO E U) (hsh : dk_sh np = t) (h23 : 23 < t) (hlen : dk_len np = N) (hN : N < 10000) (hx9 : np < nx) (w : Cond.classLink μ.1.cls idx E ∈ dk_T) (hd : decode μ.2.1 pc = .ok (.anewarray idx, 3)) (hn : pc + 3 = n) (kk : gk_W n0 nx d μ n L (.ref np :: st) M (np + 1) Q) : gk_W n0 nx d μ pc L (.int (nI N) :: st) M np Q := by
  subst hn
  intro p l e R s m args below meth c H locs cells slots Z ls ad ca G A C hL hW hK
  refine gk_size hW (fun hsz => ?_)
  obtain ⟨hx, hb, hml, hown, hts, hr1, hr2, hr3, hr4, hnm, h120⟩ := id C
  obtain ⟨wK, wP, wD, wS, i1, i3, i4, i5, i6, i7, i8, i9, iA⟩ := id hW
  have hz : gk_z np = N := by unfold gk_z; rw [hsh, if_neg (by omega), hlen]
  have hsl : gk_sl (np + 1) = gk_sl np + N := by rw [gk_sl, hz]
  have hle := gk_sl_le (show np + 1 ≤ nx by omega)
  have hle0 := gk_sl_le i3
  have hadn : ad np = H.size := by rw [i1 np (by omega), hsz]
  have hcl : (nI N).toNatClampNeg = N := nI_clamp (by omega)
  refine W.anew hx hb hown (hts _ w) (va_AO.use (hao s iA)) rfl hd rfl (nI_lt0 (by omega)) (by rw [hcl]; omega) (by omega) (by rw [hcl]; omega) fun cA kA comp f1 f2 f3 f4 => ?_
  rw [hcl]
  obtain ⟨kA2, comp2, r1, r2, r3, r4⟩ := (wK.2 kt _ (htx ca)).2
  have ecA : cA = ca t := Option.some.inj (f1.symm.trans r4)
  subst ecA
  generalize hH1 : H.push ({ cls := ca t, slots := Array.replicate N .null, vm := .none } : Cell) = H1
  have z1 : H1.size = H.size + 1 := by rw [← hH1, Array.size_push]
  have e1 : H1[H.size]? = some (arrV (ca t) N (fun _ => .null)) := by rw [← hH1, Array.getElem?_push_size, ← arrV_new]
  have o1 : ∀ q : Nat, q < H.size → H1[q]? = H[q]? := fun q hq => by rw [← hH1, Array.getElem?_push, if_neg (Nat.ne_of_lt hq)]
  have hnew : va_at G vwCl (ad np, gk_cell ad ca M np) H1 := by
    rw [gk_cell_q hsh h23, hadn, hlen]
    show H1[H.size]? = some (vp_cell _ _)
    rw [vp_cell_q, e1]
    congr 2
    funext i
    have e9 : M.1 np i = -1 := by
      rw [(i6 np (Nat.le_refl _)).1]
      show (if (dk_sh np < 20 ∧ ¬ dk_ft (dk_sh np) i < 2) ∨ 24 ≤ dk_sh np then (-1 : Int32) else 0) = -1
      rw [hsh, if_pos (Or.inr (by omega))]
    simp [dk_ref, e9, va_rf]
  have r := kk p l e R s m args below meth c H1 locs (cells + 1) (slots + gk_z np) Z ls ad ca G A C hL (gk_grow hW (by omega) hsz z1 o1 hnew) hK
  rw [hz] at r
  rw [← hadn]
  exact r
theorem gw_aast {t kt j q' : Nat} {E Cn : String} {N' : Nat} (hs : dk_ar p' t N) (h23 : 23 < t) (hp : p' < np) (htx : ∀ ca, (dk_tys ca)[kt]? = some (ca t, .object E)) (hcl : dk_CL ci Cn T N' ty0) (hq : dk_is q' ci) (hqn : q' < np) (hasg : ∀ s : State, gk_AO s → ∀ comp c0 : ClassId, s.vm.findClass E = some comp → s.vm.findClass Cn = some c0 → s.vm.assignable c0 comp = true) (hj : j < N) (hN : N < 2 ^ 31) (hd : decode μ.2.1 pc = .ok (.aastore, 1)) (hn : pc + 1 = n) (kk : gk_W n0 nx d μ n L st (dk_put M p' j (nI q')) np Q) : gk_W n0 nx d μ pc L (.ref q' :: .int (nI j) :: .ref p' :: st) M np Q := by
  subst hn
  intro p l e R s m args below meth c H locs cells slots Z ls ad ca G A C hL hW hK
  obtain ⟨wK, wP, wD, wS, wI⟩ := hW
  have hcl2 : (nI j).toNatClampNeg = j := nI_clamp (by omega)
  have hq120 := hq.2
  refine vb_astq C.1 C.2.1 wK wP wD wS p' kt (E := E) (C := Cn) (by rw [gk_ws_at hp, gk_cell_q hs.1 h23]) (htx ca) (va_recv wK wP hcl.1 (q0 := q') (a := ad q') (fs := gk_fs ad M q' ci) (by rw [gk_ws_at hqn, gk_cell_o hq.1 hcl.2.2.1])) (hasg s wI.2.2.2.2.2.2.2.2) (by rw [hs.2.2]; exact vp_in_nI hj hN) hd (fun H1 locs1 g1 g2 g3 => ?_)
  have hfn : (fun i => (dk_ref (dk_put M p' j (nI q')) p' i).map ad) = va_up (fun i => (dk_ref M p' i).map ad) (nI j).toNatClampNeg (some (ad q')) := by
    funext i
    rw [hcl2]
    by_cases hi : i = j
    · subst hi
      simp [va_up, dk_ref, dk_put, nI_pos (show q' < 2 ^ 31 by omega), nI_clamp (show q' < 2 ^ 31 by omega)]
    · simp [va_up, dk_ref, dk_put, hi]
  rw [gk_ws_set (M' := dk_put M p' j (nI q')) hp (by rw [gk_cell_q hs.1 h23, hfn]) (fun q hq => gk_cell_congr (dk_put_ne hq) rfl)] at g1 g2
  exact kk p l e R s m args below meth c H1 locs1 cells slots Z ls ad ca G A C hL ⟨wK, g1, g2, g3, wI.put hp⟩ hK
theorem gw_obj (w1 : Cond.methodLink μ.1.cls idx Lib.objectInit ∈ dk_T) (w2 : Cond.instanceMethod Lib.objectInit ∈ dk_T) (w3 : Cond.code Lib.objectInit ⟨#[0xb1]⟩ 1 none ∈ dk_T) (hc : (st.map Value.category).sum ≤ 8) (hd : decode μ.2.1 pc = .ok (.invokespecial idx, 3)) (hn : pc + 3 = n) (kk : gk_W n0 nx (d + 1) μ n L st M np Q) : gk_W n0 nx (d + 1) μ pc L (.ref p' :: st) M np Q := by
  subst hn
  intro p l e R s m args below meth c H locs cells slots Z ls ad ca G A C hL hW hK
  obtain ⟨hx, hb, hml, hown, hts, hr1, hr2, -⟩ := id C
  have hroom : 2 * (F0 m pc ls ((Value.ref p' :: st).map (dk_rv ad))).monitorRoom + ((st.map (dk_rv ad)).map fun v => v.category).sum ≤ 8 := lv_room (by rw [dk_cats]; exact hc)
  exact W.objInit hx hb hown (hts _ w1) (hts _ w2) (hts _ w3) (g := F0 m pc ls ((Value.ref p' :: st).map (dk_rv ad))) rfl (hL.1.trans hml.symm) rfl hd (by omega) (by omega) (kk p l e R s m args below meth c H locs cells slots Z ls ad ca G A C hL hW hK)
def gk_rm (n0 nx d : Nat) : Room := { frames := d, cells := nx - n0, slots := gk_sl nx - gk_sl n0, locals := 64 * d }
def gk_Pc (ad : Nat → Nat) (ca : Nat → ClassId) (G : va_G) (A : Nat → Prop) (As : List Value) (M : dk_Mem) (n0 : Nat) : Array Value → State → Prop := va_Pc (As.map (dk_rv ad)) (fun U => va_K G vwCl (dk_tys ca) U ∧ va_P G vwCl (gk_ws ad ca M n0) U.heap ∧ va_D A (gk_ws ad ca M n0) ∧ (∀ q, q < 120 → ad q = ad 0 + q) ∧ gk_un M n0 ∧ (∀ q, ad 0 ≤ q → A q) ∧ U.heap.size = ad 0 + n0 ∧ n0 ≤ 120 ∧ gk_AO U)
def gk_Qc (ad : Nat → Nat) (ca : Nat → ClassId) (G : va_G) (A : Nat → Prop) (nx : Nat) (Q : dk_Mem → Prop) : Array Value → State → Outcome → State → Prop := fun _ st o t =>
  (∃ M' : dk_Mem, o = .returned none ∧ Q M' ∧ va_P G vwCl (gk_ws ad ca M' nx) t.heap ∧ va_D A (gk_ws ad ca M' nx) ∧ gk_un M' nx) ∧ va_F A st t
/-- THE CONTRACT of a constructor: places n0 .. nx - 1 are made -/
def gk_Call (n0 nx d : Nat) (μ : dk_Mt) (As : List Value) (M : dk_Mem) (Q : dk_Mem → Prop) : Prop :=
  ∀ (l : Launch) (ad : Nat → Nat) (ca : Nat → ClassId) (G : va_G) (A : Nat → Prop), Met l μ.1 (.code μ.1 μ.2.1 μ.2.2.1 μ.2.2.2 :: dk_T) (gk_rm n0 nx d) (gk_Pc ad ca G A As M n0) (gk_Qc ad ca G A nx Q) (nx - n0) (gk_sl nx - gk_sl n0) A
set_option maxHeartbeats 1000000 in
theorem gk_enter (L : List (Option Value)) (hy : plainName μ.1.cls = true) (hv0 : μ.2.2.2 = none) (h120 : nx ≤ 120) (hL : ∀ ad, dk_prs ad 0 L = lv_args 0 (As.map (dk_rv ad))) (hl : ∀ ad, (lg_sl (As.map (dk_rv ad))).length ≤ μ.2.2.1) (k : gk_W n0 nx d μ 0 L [] M n0 Q) : gk_Call n0 nx d μ As M Q := by
  intro l ad ca G A
  refine Met.ofW (cc := μ.2.1) (maxL := μ.2.2.1) (ret := μ.2.2.2) hy rfl ?_
  intro p e s m args below meth c s₁ B hml hv
  obtain ⟨rfl, hK, hP, hD, j1, j2, j3, j4, j5, j6⟩ := hv
  have hts := atoms_spec (ws := .code μ.1 μ.2.1 μ.2.2.1 μ.2.2.2 :: dk_T) B.pre
  have hown : s.vm.findClass μ.1.cls = some m.cls := findClass_of_methodNamed B.named
  have hnm : meth.name = μ.1.name := (name_of_methodNamed B.named B.method).1
  have hlv := lv_entry (As.map (dk_rv ad)) (n := μ.2.2.1) (hl ad)
  rw [lg_entry_eq]
  generalize (lg_sl (As.map (dk_rv ad)) ++ List.replicate (μ.2.2.1 - (lg_sl (As.map (dk_rv ad))).length) Slot.unset).toArray = ls at hlv ⊢
  have hS : va_S A s.heap s.heap [] := va_S.rf
  refine k p l e (gk_rm n0 nx d) s m _ below meth c s.heap [] 0 0 _ ls ad ca G A ⟨B.exec, B.bytes, hml, hown, fun w hw => hts w (List.mem_cons_of_mem _ hw), Nat.le_refl _, Nat.le_refl _, Nat.le_refl _, Nat.le_refl _, hnm, h120⟩ ?_ ⟨hK, hP, hD, hS, j1, Nat.le_refl _, by omega, by omega, j2, j3, j4, j5, j6⟩ ?_
  · unfold dk_Lv
    rw [hL ad]
    exact hlv
  · intro M' H' locs' cells' slots' hq hw pc' ls' hd
    obtain ⟨wK, wP, wD, wS, i1, i3, i4, i5, i6, i7, i8, i9, iA⟩ := hw
    have ec : cells' = nx - n0 := i4
    have es : slots' = gk_sl nx - gk_sl n0 := by omega
    subst ec
    subst es
    exact W.vret B.exec B.bytes (B.returns.trans hv0) (fun t ht hW => ⟨⟨M', rfl, hq, by rw [ht]; exact wP, wD, i6⟩, wS.F ht⟩) (fun q hq => wS.2.2 q hq) hd (hlocks := B.notSynchronized)
end GKN
