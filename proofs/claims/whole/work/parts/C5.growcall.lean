/-! ===== a call of a constructor ===== -/
section GKC
variable {n0 nx nm d : Nat} {μ ν : dk_Mt} {pc n idx n' ci p' np : Nat} {L : List (Option Value)} {st As : List Value} {M : dk_Mem} {Q : dk_Mem → Prop} {C : String} {T : u_T} {N : Nat} {ty0 : Nat → FieldType}
theorem gk_blind {ad : Nat → Nat} {ca : Nat → ClassId} {G : va_G} {A : Nat → Prop} : FrameBlind (gk_Pc ad ca G A As M n0) := by
  rintro a U g mk ⟨h1, h2, h3, h4, j1, j2, j3, j4, j5, j6⟩
  obtain ⟨a1, a2, a3, a4, a5, a6, a7, a8, a9⟩ := j6
  have r : U.vm.Alike (U.calling g mk a).vm := Vm.Alike.refl U.vm
  exact ⟨h1, va_K.moved (u := U) (U := U.calling g mk a) r h2, h3, h4, j1, j2, j3, j4, j5, a1.moved (U := U.calling g mk a) r, a2.moved (U := U.calling g mk a) r, over_moved (E := U.calling g mk a) r a3, va_Nw.same (U := U.calling g mk a) rfl rfl a4, va_Nw.same (U := U.calling g mk a) rfl rfl a5, va_Nw.same (U := U.calling g mk a) rfl rfl a6, va_Nw.same (U := U.calling g mk a) rfl rfl a7, va_Nw.same (U := U.calling g mk a) rfl rfl a8, fun q hq => va_Nw.same (U := U.calling g mk a) rfl rfl (a9 q hq)⟩
theorem gk_goesOn {p : Program} {l : Launch} {e : Env} {R : Room} {s : State} {m : MethodId} {args : Array Value} {below : List Frame} {meth : Method} {c : Code} {H : Heap} {locs : List Loc} {cells slots mc ms : Nat} {Z : State → Prop} {ls : Array Slot} {st0 rest : List Value} {a : Array Value} {ad : Nat → Nat} {ca : Nat → ClassId} {G : va_G} {A : Nat → Prop} {Q' : dk_Mem → Prop}
    (hr : va_Run p l e R s m args below meth c H locs cells slots mc ms (F0 m pc ls st0) rest (gk_Qc ad ca G A nm Q' a) A) (hS : va_S A s.heap H locs)
    (kk : ∀ (M' : dk_Mem) (H1 : Heap) (locs1 : List Loc), Q' M' → va_P G vwCl (gk_ws ad ca M' nm) H1 → va_D A (gk_ws ad ca M' nm) → gk_un M' nm → va_S A s.heap H1 locs1 → W p l e R s m args below meth c H1 locs1 (cells + mc) (slots + ms) Z (F0 m (pc + 3) ls rest)) : W p l e R s m args below meth c H locs cells slots Z (F0 m pc ls st0) := by
  intro T hT X
  obtain ⟨v, st₀, t, T', L, h0, X', hL, e1, e2, ⟨⟨M', hv, hq, hP, hD, hU⟩, hz, hk⟩, stp⟩ := hr T hT X
  cases hv
  rw [h0] at hz hk
  obtain ⟨t2, a1, b1⟩ := kk M' T'.heap (locs ++ L) hq (by rw [e1]; exact hP) hD hU
    ⟨Nat.le_trans hS.1 (by rw [e1]; exact hz), fun q h1 h2 => by rw [e1, hk q (Nat.lt_of_lt_of_le h1 hS.1) h2]; exact hS.2.1 q h1 h2, fun q hq => by
      rcases List.mem_append.mp hq with h | h
      · exact hS.2.2 q h
      · exact hL q h⟩ T' rfl X'
  exact ⟨t2, stp t2 a1, b1⟩
def dk_KI (own : String) (idx : Nat) (ν : dk_Mt) : Prop := Cond.methodLink own idx ν.1 ∈ dk_T ∧ Cond.instanceMethod ν.1 ∈ dk_T ∧ ν.1.name = "<init>"
/-- invokespecial of a constructor at the place p', places np .. nm - 1 are made -/
theorem gw_cI (h0 : dk_S0 ν n') (h1 : dk_KI μ.1.cls idx ν) (hv0 : ν.2.2.2 = none) (hlen : As.length = n') (hc : (st.map Value.category).sum ≤ 8) (hnm : np ≤ nm) (hnx : nm ≤ nx) (hd : decode μ.2.1 pc = .ok (.invokespecial idx, 3)) (hn : pc + 3 = n) (k : gk_Call np nm d ν (.ref p' :: As) M (fun M' => gk_W n0 nx (d + 1) μ n L st M' nm Q)) : gk_W n0 nx (d + 1) μ pc L (As.reverse ++ .ref p' :: st) M np Q := by
  subst hn
  intro p l e R s m args below meth c H locs cells slots Z ls ad ca G A C hL hW hK
  refine gk_size hW (fun hsz => ?_)
  obtain ⟨hx, hb, hml, hown, hts, hr1, hr2, hr3, hr4, hmn, h120⟩ := id C
  obtain ⟨wK, wP, wD, wS, i1, i3, i4, i5, i6, i7, i8, i9, iA⟩ := id hW
  obtain ⟨g1, g2, g3, g4⟩ := id h0
  have hle := gk_sl_le hnx
  have hle1 := gk_sl_le hnm
  have hle0 := gk_sl_le i3
  have cb : CallB R s args μ.1.cls idx ν.1 ν.2.1 ν.2.2.1 none (.code ν.1 ν.2.1 ν.2.2.1 ν.2.2.2 :: dk_T) (gk_rm np nm d) (nm - np) (gk_sl nm - gk_sl np) n' := callB_of n' hts (dk_gd h0) (by rw [hv0]) rfl rfl (hts _ g2) (hts _ h1.1) g3 ⟨hr1, by show 8 + (ν.2.2.1 + 11) + 64 * d ≤ R.locals; omega⟩
  have hpre : ∀ U : State, U.heap = H → s.WarmedH U.vm → gk_Pc ad ca G A (.ref p' :: As) M np ((Value.ref p' :: As).map (dk_rv ad)).toArray U := fun U hU hw => ⟨rfl, va_K.moved hw.alike wK, by rw [hU]; exact wP, wD, i1, i6, i7, by rw [hU]; exact hsz, i9, iA.warm hw⟩
  have hr := va_runI (p := p) (e := e) (below := below) (meth := meth) (locs := locs) (b := ad p') (As := As.map (dk_rv ad)) (rest := st.map (dk_rv ad)) (g := F0 m pc ls ((As.reverse ++ .ref p' :: st).map (dk_rv ad))) ⟨hx, hb, hml, hown, hts⟩ (k l ad ca G A) ⟨cb, h1.2.2, hts _ h1.2.1⟩ ⟨gk_blind, hpre⟩ rfl (by rw [List.length_map]; exact hlen) hL.1 (by simp [dk_rv]) (lv_room (by rw [dk_cats]; exact hc)) hd (cells := cells) (slots := slots) ⟨by omega, by omega⟩
  exact gk_goesOn hr wS (fun M' H1 locs1 hq hP hD hU hS => hq p l e R s m args below meth c H1 locs1 _ _ Z ls ad ca G A C hL ⟨wK, hP, hD, hS, i1, by omega, by omega, by omega, hU, i7, i8, by omega, iA⟩ hK)
/-- the same, of a nest mate -/
theorem gw_cIN {K : String} (h0 : dk_S0 ν n') (hν : ν.1 = ⟨K, "<init>", "()V"⟩) (h1 : (μ.1.cls, idx, K) ∈ gk_nl) (w1 : Cond.instanceMethod ν.1 ∈ dk_T) (hv0 : ν.2.2.2 = none) (hlen : As.length = n') (hc : (st.map Value.category).sum ≤ 8) (hnm : np ≤ nm) (hnx : nm ≤ nx) (hd : decode μ.2.1 pc = .ok (.invokespecial idx, 3)) (hn : pc + 3 = n) (k : gk_Call np nm d ν (.ref p' :: As) M (fun M' => gk_W n0 nx (d + 1) μ n L st M' nm Q)) : gk_W n0 nx (d + 1) μ pc L (As.reverse ++ .ref p' :: st) M np Q := by
  subst hn
  intro p l e R s m args below meth c H locs cells slots Z ls ad ca G A C hL hW hK
  refine gk_size hW (fun hsz => ?_)
  obtain ⟨hx, hb, hml, hown, hts, hr1, hr2, hr3, hr4, hmn, h120⟩ := id C
  obtain ⟨wK, wP, wD, wS, i1, i3, i4, i5, i6, i7, i8, i9, iA⟩ := id hW
  obtain ⟨g1, g2, g3, g4⟩ := id h0
  have hle := gk_sl_le hnx
  have hle1 := gk_sl_le hnm
  have hle0 := gk_sl_le i3
  have hnw : va_Nw (.methodLinkNest μ.1.cls idx ν.1 "DominoKin") s := by rw [hν]; exact iA.2.2.2.2.2.2.2.2 _ h1
  have cb : va_CN R s args μ.1.cls idx ν.1 "DominoKin" ν.2.1 ν.2.2.1 none (.code ν.1 ν.2.1 ν.2.2.1 ν.2.2.2 :: dk_T) (gk_rm np nm d) (nm - np) (gk_sl nm - gk_sl np) n' := va_cnB n' hts (dk_gd h0) (by rw [hv0]) rfl rfl hnw (hts _ g2) g3 ⟨hr1, by show 8 + (ν.2.2.1 + 11) + 64 * d ≤ R.locals; omega⟩
  have hpre : ∀ U : State, U.heap = H → s.WarmedH U.vm → gk_Pc ad ca G A (.ref p' :: As) M np ((Value.ref p' :: As).map (dk_rv ad)).toArray U := fun U hU hw => ⟨rfl, va_K.moved hw.alike wK, by rw [hU]; exact wP, wD, i1, i6, i7, by rw [hU]; exact hsz, i9, iA.warm hw⟩
  have hr := va_runIN (p := p) (e := e) (below := below) (meth := meth) (locs := locs) (b := ad p') (As := As.map (dk_rv ad)) (rest := st.map (dk_rv ad)) (g := F0 m pc ls ((As.reverse ++ .ref p' :: st).map (dk_rv ad))) ⟨hx, hb, hml, hown, hts⟩ (k l ad ca G A) ⟨cb, by rw [hν], hts _ w1⟩ ⟨gk_blind, hpre⟩ rfl (by rw [List.length_map]; exact hlen) hL.1 (by simp [dk_rv]) (lv_room (by rw [dk_cats]; exact hc)) hd (cells := cells) (slots := slots) ⟨by omega, by omega⟩
  exact gk_goesOn hr wS (fun M' H1 locs1 hq hP hD hU hS => hq p l e R s m args below meth c H1 locs1 _ _ Z ls ad ca G A C hL ⟨wK, hP, hD, hS, i1, by omega, by omega, by omega, hU, i7, i8, by omega, iA⟩ hK)
/-- invokestatic that makes nothing -/
theorem gw_cS (h0 : dk_S0 ν n') (h1 : dk_KS μ.1.cls idx ν) (hv0 : ν.2.2.2 = none) (hlen : As.length = n') (hc : (st.map Value.category).sum ≤ 8) (hw9 : np ≤ nx) (hd : decode μ.2.1 pc = .ok (.invokestatic idx, 3)) (hn : pc + 3 = n) (k : gk_Call np np d ν As M (fun M' => gk_W n0 nx (d + 1) μ n L st M' np Q)) : gk_W n0 nx (d + 1) μ pc L (As.reverse ++ st) M np Q := by
  subst hn
  intro p l e R s m args below meth c H locs cells slots Z ls ad ca G A C hL hW hK
  refine gk_size hW (fun hsz => ?_)
  obtain ⟨hx, hb, hml, hown, hts, hr1, hr2, hr3, hr4, hmn, h120⟩ := id C
  obtain ⟨wK, wP, wD, wS, i1, i3, i4, i5, i6, i7, i8, i9, iA⟩ := id hW
  obtain ⟨g1, g2, g3, g4⟩ := id h0
  have hle0 := gk_sl_le i3
  have cb : CallB R s args μ.1.cls idx ν.1 ν.2.1 ν.2.2.1 none (.code ν.1 ν.2.1 ν.2.2.1 ν.2.2.2 :: dk_T) (gk_rm np np d) (np - np) (gk_sl np - gk_sl np) n' := callB_of n' hts (dk_gd h0) (by rw [hv0]) rfl rfl (hts _ g2) (hts _ h1.1) g3 ⟨hr1, by show 8 + (ν.2.2.1 + 11) + 64 * d ≤ R.locals; omega⟩
  have hpre : ∀ U : State, U.heap = H → s.WarmedH U.vm → gk_Pc ad ca G A As M np (As.map (dk_rv ad)).toArray U := fun U hU hw => ⟨rfl, va_K.moved hw.alike wK, by rw [hU]; exact wP, wD, i1, i6, i7, by rw [hU]; exact hsz, i9, iA.warm hw⟩
  have hr := va_runS (p := p) (e := e) (below := below) (meth := meth) (locs := locs) (As := As.map (dk_rv ad)) (rest := st.map (dk_rv ad)) (g := F0 m pc ls ((As.reverse ++ st).map (dk_rv ad))) ⟨hx, hb, hml, hown, hts⟩ (k l ad ca G A) ⟨cb, hts _ h1.2⟩ ⟨gk_blind, hpre⟩ rfl (by rw [List.length_map]; exact hlen) hL.1 (by simp) (lv_room (by rw [dk_cats]; exact hc)) hd (cells := cells) (slots := slots) ⟨by have := C.2.2.2.2.2.2.2.1; omega, by have := gk_sl_le hw9; omega⟩
  exact gk_goesOn hr wS (fun M' H1 locs1 hq hP hD hU hS => hq p l e R s m args below meth c H1 locs1 _ _ Z ls ad ca G A C hL ⟨wK, hP, hD, hS, i1, by omega, by omega, by omega, hU, i7, i8, by omega, iA⟩ hK)
theorem gw_ret (hnp : np = nx) (hd : decode μ.2.1 pc = .ok (.return_, 1)) (hq : Q M) : gk_W n0 nx d μ pc L [] M np Q := by
  subst hnp
  intro p l e R s m args below meth c H locs cells slots Z ls ad ca G A C hL hW hK
  exact hK M H locs cells slots hq hW pc ls hd
end GKC
