/-! ===== the law's entry ===== -/
def gk_Cv (p : Program) (l : Launch) (e : Env) (R : Room) (s : State) (m : MethodId) (args : Array Value) (c : Code) (μ : dk_Mt) (d n0 nx : Nat) : Prop :=
  p.tables.exec = Jvm.exec ∧ c.code = μ.2.1 ∧ c.maxLocals = μ.2.2.1 ∧ s.vm.findClass μ.1.cls = some m.cls ∧ (∀ w ∈ dk_T, w.before args s = true) ∧ d ≤ R.frames ∧ 64 * d ≤ R.locals ∧ nx - n0 ≤ R.cells ∧ gk_sl nx - gk_sl n0 ≤ R.slots ∧ True ∧ nx ≤ 120
/-- as gk_W, left at pc 18 with the law's locals -/
def gk_V (n0 nx d : Nat) (μ : dk_Mt) (pc : Nat) (L : List (Option Value)) (st : List Value) (M : dk_Mem) (np : Nat) (Q : dk_Mem → Prop) : Prop :=
  ∀ (p : Program) (l : Launch) (e : Env) (R : Room) (s : State) (m : MethodId) (args : Array Value) (below : List Frame) (meth : Method) (c : Code) (H : Heap) (locs : List Loc) (cells slots : Nat) (Z : State → Prop) (ls : Array Slot) (ad : Nat → Nat) (ca : Nat → ClassId) (G : va_G) (A : Nat → Prop),
    gk_Cv p l e R s m args c μ d n0 nx → dk_Lv ad L ls μ.2.2.1 → gk_Wo ad ca G A s H locs M np cells slots n0 →
    (∀ (M' : dk_Mem) (H' : Heap) (locs' : List Loc) (cells' slots' : Nat), Q M' → gk_Wo ad ca G A s H' locs' M' nx cells' slots' n0 → ∀ (ls' : Array Slot), dk_Lv ad [some (.ref 300), some (.ref 0), some (.ref 104), some (.int (nI 0))] ls' μ.2.2.1 → W p l e R s m args below meth c H' locs' cells' slots' Z (F0 m 18 ls' [])) →
    W p l e R s m args below meth c H locs cells slots Z (F0 m pc ls (st.map (dk_rv ad)))
section GKV
variable {n0 nx nm d : Nat} {μ ν : dk_Mt} {pc n idx n' ci p' np : Nat} {L : List (Option Value)} {st As : List Value} {M : dk_Mem} {Q : dk_Mem → Prop} {C : String} {T : u_T} {N : Nat} {ty0 : Nat → FieldType}

theorem gv_iconst {i : Int} (v : Int32) (hd : decode μ.2.1 pc = .ok (.iconst i, 1)) (hv : Int32.ofInt i = v) (hn : pc + 1 = n) (k : gk_V n0 nx d μ n L (.int v :: st) M np Q) : gk_V n0 nx d μ pc L (st) M np Q := by
  subst hn
  exact fun p l e R s m args below meth c H locs cells slots Z ls ad ca G A C hL hW hK => lv_iconst (v := v) C.1 C.2.1 hd hv (k p l e R s m args below meth c H locs cells slots Z ls ad ca G A C hL hW hK)

theorem gv_as1 {a0 : Option Value} {b : Option Value} {x : Nat} (hd : decode μ.2.1 pc = .ok (.astore_n 1, 1)) (hn : pc + 1 = n) (hx : dk_nl a0 = true) (hi : 1 < μ.2.2.1) (k : gk_V n0 nx d μ n (a0 :: some (.ref x) :: L) st M np Q) : gk_V n0 nx d μ pc (a0 :: b :: L) (.ref x :: st) M np Q := by
  subst hn
  exact fun p l e R s m args below meth c H locs cells slots Z ls ad ca G A C hL hW hK => lv_astore_n C.1 C.2.1 hd rfl hL hi rfl (fun ls' h' => (k p l e R s m args below meth c H locs cells slots Z ls' ad ca G A C (dk_Lv.set (v := .ref x) (L := a0 :: b :: L) (i := 1) (by simp) (fun a _ h => by cases h; exact hx) h') hW hK))

theorem gv_as2 {a0 a1 : Option Value} {b : Option Value} {x : Nat} (hd : decode μ.2.1 pc = .ok (.astore_n 2, 1)) (hn : pc + 1 = n) (hx : dk_nl a1 = true) (hi : 2 < μ.2.2.1) (k : gk_V n0 nx d μ n (a0 :: a1 :: some (.ref x) :: L) st M np Q) : gk_V n0 nx d μ pc (a0 :: a1 :: b :: L) (.ref x :: st) M np Q := by
  subst hn
  exact fun p l e R s m args below meth c H locs cells slots Z ls ad ca G A C hL hW hK => lv_astore_n C.1 C.2.1 hd rfl hL hi rfl (fun ls' h' => (k p l e R s m args below meth c H locs cells slots Z ls' ad ca G A C (dk_Lv.set (v := .ref x) (L := a0 :: a1 :: b :: L) (i := 2) (by simp) (fun a _ h => by cases h; exact hx) h') hW hK))

theorem gv_is3 {a0 a1 a2 : Option Value} {b : Option Value} {x : Int32} (hd : decode μ.2.1 pc = .ok (.istore_n 3, 1)) (hn : pc + 1 = n) (hx : dk_nl a2 = true) (hi : 3 < μ.2.2.1) (k : gk_V n0 nx d μ n (a0 :: a1 :: a2 :: some (.int x) :: L) st M np Q) : gk_V n0 nx d μ pc (a0 :: a1 :: a2 :: b :: L) (.int x :: st) M np Q := by
  subst hn
  exact fun p l e R s m args below meth c H locs cells slots Z ls ad ca G A C hL hW hK => lv_istore_n C.1 C.2.1 hd rfl hL hi rfl (fun ls' h' => (k p l e R s m args below meth c H locs cells slots Z ls' ad ca G A C (dk_Lv.set (v := .int x) (L := a0 :: a1 :: a2 :: b :: L) (i := 3) (by simp) (fun a _ h => by cases h; exact hx) h') hW hK))

theorem gv_dup {v : Value} (hv : v.category = 1) (hd : decode μ.2.1 pc = .ok (.dup, 1)) (hn : pc + 1 = n) (k : gk_V n0 nx d μ n L (v :: v :: st) M np Q) : gk_V n0 nx d μ pc L (v :: st) M np Q := by
  subst hn
  exact fun p l e R s m args below meth c H locs cells slots Z ls ad ca G A C hL hW hK => lv_dup C.1 C.2.1 hd ((dk_rv_cat ad v).trans hv) (k p l e R s m args below meth c H locs cells slots Z ls ad ca G A C hL hW hK)

theorem gv_new (hcl : dk_CL ci C T N ty0) (hsh : dk_sh np = ci) (hx9 : np < nx) (hy : ∀ k, k < N → defaultValue (ty0 k) = if dk_ft ci k < 2 then .int 0 else .null) (w1 : Cond.classLink μ.1.cls idx C ∈ dk_T) (w2 : Cond.instantiable C N ∈ dk_T) (w3 : Cond.initialized C ∈ dk_T) (hd : decode μ.2.1 pc = .ok (.new idx, 3)) (hn : pc + 3 = n) (kk : gk_V n0 nx d μ n L (.ref np :: st) M (np + 1) Q) : gk_V n0 nx d μ pc L st M np Q := by
  subst hn
  intro p l e R s m args below meth c H locs cells slots Z ls ad ca G A C hL hW hK
  refine gk_size hW (fun hsz => ?_)
  obtain ⟨h1, h2, h3, h4, h5, h6⟩ := id hcl
  obtain ⟨hx, hb, hml, hown, hts, hr1, hr2, hr3, hr4, hnm, h120⟩ := id C
  obtain ⟨wK, wP, wD, wS, i1, i3, i4, i5, i6, i7, i8, i9, iA⟩ := id hW
  have hz : gk_z np = N := by unfold gk_z; rw [hsh, if_pos h3, ← h2]
  have hsl : gk_sl (np + 1) = gk_sl np + N := by rw [gk_sl, hz]
  have hle := gk_sl_le (show np + 1 ≤ nx by omega)
  have hle0 := gk_sl_le i3
  have hKn := wK.1 ci _ h1
  have hadn : ad np = H.size := by rw [i1 np (by omega), hsz]
  refine W.newcK hx hb hown (hts _ w1) (hts _ w2) (hts _ w3) rfl hd (by omega) (by omega) hKn.2.1 rfl fun H1 kC hkC e1 z1 o1 => ?_
  have hnew : va_at G vwCl (ad np, gk_cell ad ca M np) H1 := by
    rw [gk_cell_o hsh h3, hadn]
    refine ⟨_, h1, (u_born ty0 hts h4 hKn hkC e1 h5).to (fun j hj => ?_)⟩
    have hj2 : j < dk_fn ci := h2 ▸ hj
    rw [hy j hj]
    have e9 : M.1 np j = gk_M0.1 np j := by rw [(i6 np (Nat.le_refl _)).1]
    by_cases hft : dk_ft ci j < 2
    · rw [if_pos hft]
      have e8 : M.1 np j = 0 := by
        rw [e9]
        show (if (dk_sh np < 20 ∧ ¬ dk_ft (dk_sh np) j < 2) ∨ 24 ≤ dk_sh np then (-1 : Int32) else 0) = 0
        rw [hsh, if_neg (by omega)]
      simp [vp_V, gk_fs_at hj2, gk_fv, hft, e8]
    · rw [if_neg hft]
      have e8 : M.1 np j = -1 := by
        rw [e9]
        show (if (dk_sh np < 20 ∧ ¬ dk_ft (dk_sh np) j < 2) ∨ 24 ≤ dk_sh np then (-1 : Int32) else 0) = -1
        rw [hsh, if_pos (Or.inl ⟨h3, hft⟩)]
      simp [vp_V, gk_fs_at hj2, gk_fv, hft, dk_ref, e8, va_rf]
  have r := kk p l e R s m args below meth c H1 locs (cells + 1) (slots + gk_z np) Z ls ad ca G A C hL (gk_grow hW (by omega) hsz z1 o1 hnew) hK
  rw [hz] at r
  rw [← hadn]
  exact r

theorem gv_cI (h0 : dk_S0 ν n') (h1 : dk_KI μ.1.cls idx ν) (hv0 : ν.2.2.2 = none) (hlen : As.length = n') (hc : (st.map Value.category).sum ≤ 8) (hnm : np ≤ nm) (hnx : nm ≤ nx) (hd : decode μ.2.1 pc = .ok (.invokespecial idx, 3)) (hn : pc + 3 = n) (k : gk_Call np nm d ν (.ref p' :: As) M (fun M' => gk_V n0 nx (d + 1) μ n L st M' nm Q)) : gk_V n0 nx (d + 1) μ pc L (As.reverse ++ .ref p' :: st) M np Q := by
  subst hn
  intro p l e R s m args below meth c H locs cells slots Z ls ad ca G A C hL hW hK
  refine gk_size hW (fun hsz => ?_)
  obtain ⟨hx, hb, hml, hown, hts, hr1, hr2, hr3, hr4, hmn, h120⟩ := id C
  obtain ⟨wK, wP, wD, wS, i1, i3, i4, i5, i6, i7, i8, i9, iA⟩ := id hW
  obtain ⟨g1, g2, g3, g4⟩ := id h0
  have hle := gk_sl_le hnx
  have hle1 := gk_sl_le hnm
  have hle0 := gk_sl_le i3
  have cb : CallB R s args μ.1.cls idx ν.1 ν.2.1 ν.2.2.1 none (.code ν.1 ν.2.1 ν.2.2.1 ν.2.2.2 :: dk_T) (gk_rm np nm d) (nm - np) (gk_sl nm - gk_sl np) n' := callB_of n' hts (dk_gd h0) (by rw [hv0]) rfl rfl (hts _ g2) (hts _ h1.1) g3 ⟨hr1, by show 8 + (ν.2.2.1 + 11) + 64 * d ≤ R.locals; omega⟩
  have hpre : ∀ U : State, U.heap = H → s.WarmedH U.vm → gk_Pc ad ca G A (.ref p' :: As) M np ((Value.ref p' :: As).map (dk_rv ad)).toArray U := fun U hU hw => ⟨rfl, va_K.moved hw.alike wK, by rw [hU]; exact wP, wD, i1, i6, i7, by rw [hU]; exact hsz, i9, iA.warm hw⟩
  have hr := va_runI (p := p) (e := e) (below := below) (meth := meth) (locs := locs) (b := ad p') (As := As.map (dk_rv ad)) (rest := st.map (dk_rv ad)) (g := F0 m pc ls ((As.reverse ++ .ref p' :: st).map (dk_rv ad))) ⟨hx, hb, hml, hown, hts⟩ (k l ad ca G A) ⟨cb, h1.2.2, hts _ h1.2.1⟩ ⟨gk_blind, hpre⟩ rfl (by rw [List.length_map]; exact hlen) hL.1 (by simp [dk_rv]) (lv_room (by rw [dk_cats]; exact hc)) hd (cells := cells) (slots := slots) ⟨by omega, by omega⟩
  exact gk_goesOn hr wS (fun M' H1 locs1 hq hP hD hU hS => hq p l e R s m args below meth c H1 locs1 _ _ Z ls ad ca G A C hL ⟨wK, hP, hD, hS, i1, by omega, by omega, by omega, hU, i7, i8, by omega, iA⟩ hK)

theorem gv_cI0 (h0 : dk_S0 ν 0) (h1 : dk_KI μ.1.cls idx ν) (hv0 : ν.2.2.2 = none) (hc : (st.map Value.category).sum ≤ 8) (hnm : np ≤ nm) (hnx : nm ≤ nx) (hd : decode μ.2.1 pc = .ok (.invokespecial idx, 3)) (hn : pc + 3 = n) (k : gk_Call np nm d ν [.ref p'] M (fun M' => gk_V n0 nx (d + 1) μ n L st M' nm Q)) : gk_V n0 nx (d + 1) μ pc L (.ref p' :: st) M np Q := gv_cI (As := []) h0 h1 hv0 rfl hc hnm hnx hd hn k

theorem gv_end (hnp : np = nx) (hq : Q M) : gk_V n0 nx d μ 18 [some (.ref 300), some (.ref 0), some (.ref 104), some (.int (nI 0))] [] M np Q := by
  subst hnp
  intro p l e R s m args below meth c H locs cells slots Z ls ad ca G A C hL hW hK
  exact hK M H locs cells slots hq hW ls hL
end GKV
theorem gv_law (hMu : gk_Mu) {d : Nat} : gk_V 0 120 (d + 5) mL_law 0 [some (.ref 300), none, none, none] [] gk_M0 0 (fun M => M = gM) := by
  refine gv_new (n := 3) cl_11 pl_0.1 (by decide) gk_df_11 in_113 in_114 in_92 dL_law_0 rfl ?_
  refine gv_dup (n := 4) rfl dL_law_3 rfl ?_
  refine gv_cI0 (n := 7) (nm := 104) s0_X11_init ⟨in_115, in_116, rfl⟩ rfl (Nat.le_of_ble_eq_true rfl) (by decide) (by decide) dL_law_4 rfl (gc_X11_init_0 (d := d) hMu ?_)
  refine gv_as1 (n := 8) dL_law_7 rfl rfl (by decide) ?_
  refine gv_new (n := 11) cl_12 pl_104.1 (by decide) gk_df_12 in_1248 in_1249 in_105 dL_law_8 rfl ?_
  refine gv_dup (n := 12) rfl dL_law_11 rfl ?_
  refine gv_cI0 (n := 15) (nm := 120) s0_X12_init ⟨in_1250, in_1251, rfl⟩ rfl (Nat.le_of_ble_eq_true rfl) (by decide) (by decide) dL_law_12 rfl (gc_X12_init_104 (d := d + 3) ?_)
  refine gv_as2 (n := 16) dL_law_15 rfl rfl (by decide) ?_
  refine gv_iconst (n := 17) (nI 0) dL_law_16 (by decide) rfl ?_
  refine gv_is3 (n := 18) dL_law_17 rfl rfl (by decide) ?_
  exact gv_end rfl rfl
theorem arrV_cg {cI : ClassId} {N : Nat} {f g : Nat → Value} (h : ∀ j, j < N → f j = g j) : arrV cI N f = arrV cI N g := by
  unfold arrV
  congr 1
  apply Array.ext
  · simp
  · intro i h1 h2
    simp only [Array.getElem_ofFn]
    exact h i (by simpa using h1)
/-- the growing world is the standing one -/
theorem gk_dk {ad : Nat → Nat} {ca : Nat → ClassId} {G : va_G} {A : Nat → Prop} {H : Heap} (hP : va_P G vwCl (gk_ws ad ca gM 120) H) (hD : va_D A (gk_ws ad ca gM 120)) : va_P G vwCl (dk_ws ad ca gM) H ∧ va_D A (dk_ws ad ca gM) := by
  have key : ∀ p, p < 120 → va_at G vwCl (ad p, gk_cell ad ca gM p) H → va_at G vwCl (ad p, dk_cell ad ca gM p) H := by
    intro p hp h
    obtain ⟨r1, r2, r3⟩ := g_rf p hp
    generalize hM : gM = M at *
    by_cases h20 : dk_sh p < 20
    · have e : gk_cell ad ca M p = dk_cell ad ca M p := by
        rw [gk_cell_o rfl h20, dk_cell_o rfl h20]
        have e2 : gk_fs ad M p (dk_sh p) = dk_fs ad M p (dk_sh p) := by
          unfold gk_fs dk_fs
          apply List.map_congr_left
          intro k hk
          have hk2 : k < 31 := Nat.lt_of_lt_of_le (List.mem_range.mp hk) (r3 h20)
          have h4 := g_ft (dk_sh p) h20 k hk2
          unfold gk_fv dk_fv
          by_cases c2 : dk_ft (dk_sh p) k < 2
          · rw [if_pos c2, if_neg (by omega), if_neg (by omega)]
          · rw [if_neg c2]
            by_cases c3 : dk_ft (dk_sh p) k = 2
            · rw [if_pos c3, r1 h20 k hk2 c3]
            · rw [if_neg c3, if_pos (by omega)]
        rw [e2]
      rw [← e]
      exact h
    · by_cases h23 : dk_sh p < 23
      · rw [dk_cell_i rfl h20 h23]
        rw [gk_cell_i rfl h20 h23] at h
        exact h
      · by_cases e23 : dk_sh p = 23
        · rw [dk_cell_l e23]
          rw [gk_cell_l e23] at h
          exact h
        · rw [dk_cell_q rfl (by omega)]
          rw [gk_cell_q rfl (by omega)] at h
          refine Eq.trans (show H[ad p]? = _ from h) (congrArg some ?_)
          show vp_cell _ _ = vp_cell _ _
          rw [vp_cell_q, vp_cell_q]
          exact arrV_cg (fun j hj => by rw [r2 (by omega) j hj])
  have ix : ∀ (k : Nat) (q : Nat × va_E), (dk_ws ad ca gM)[k]? = some q → k < 120 ∧ q = (ad k, dk_cell ad ca gM k) := by
    intro k q hk
    have hl : k < 120 := by
      have := (List.getElem?_eq_some_iff.mp hk).1
      simpa [dk_ws] using this
    rw [dk_ws_at hl] at hk
    exact ⟨hl, (Option.some.inj hk).symm⟩
  refine ⟨fun k q hk => ?_, fun i j a b ha hb hab => ?_, fun k q hk => ?_⟩
  · obtain ⟨hl, rfl⟩ := ix k q hk
    exact key k hl (hP k _ (gk_ws_at hl))
  · obtain ⟨hi, rfl⟩ := ix i a ha
    obtain ⟨hj, rfl⟩ := ix j b hb
    exact hD.1 i j _ _ (gk_ws_at hi) (gk_ws_at hj) hab
  · obtain ⟨hl, rfl⟩ := ix k q hk
    exact hD.2 k (ad k, gk_cell ad ca gM k) (gk_ws_at hl)
