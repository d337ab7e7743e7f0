/-! ===== the text of words: a constant of the class ===== -/
theorem w_ldcS {d : Nat} {μ : dk_Mt} {pc n : Nat} {L : List (Option Value)} {st : List Value} {M : dk_Mem} {Q : Option Value → dk_Mem → Prop} (hd : decode μ.2.1 pc = .ok (.ldc 81, 2)) (hn : pc + 2 = n) (k : dk_W d μ n L (.ref 202 :: st) M Q) (hm : μ.1.cls = "DominoKin$RuleBook" := by rfl) : dk_W d μ pc L st M Q := by
  subst hn
  exact fun p l e R s m args below meth c H locs cells slots Z ls ad ca G A C hL hW hK => va_ldcS C.1 C.2.1 (hm ▸ C.2.2.2.1) hW.2.2.2.2.2.2.2.2.1 hd (k p l e R s m args below meth c H locs cells slots Z ls ad ca G A C hL hW hK)
theorem w_sval {d : Nat} {μ : dk_Mt} {pc n : Nat} {L : List (Option Value)} {st : List Value} {M : dk_Mem} {Q : Option Value → dk_Mem → Prop} (hd : decode μ.2.1 pc = .ok (.getfield 9, 3)) (hn : pc + 3 = n) (k : dk_W d μ n L (.ref 203 :: st) M Q) (hm : μ.1.cls = "java/lang/String" := by rfl) : dk_W d μ pc L (.ref 202 :: st) M Q := by
  subst hn
  have hl : Cond.fieldLink μ.1.cls 9 "java/lang/String" "value" "[B" ∈ dk_T := by rw [hm]; exact dk_in (i := 1860) (by decide +kernel) rfl
  exact fun p l e R s m args below meth c H locs cells slots Z ls ad ca G A C hL hW hK => vk_getf C.1 C.2.1 ((hW.2.2.2.2.2.2.2.2.2.1.1 0 (by decide)).2.2.1) hW.2.2.2.1 C.2.2.2.1 (C.2.2.2.2.1 _ hl) (fun _ h => h) hd (k p l e R s m args below meth c H locs cells slots Z ls ad ca G A C hL hW hK)
theorem w_scod {d : Nat} {μ : dk_Mt} {pc n : Nat} {L : List (Option Value)} {st : List Value} {M : dk_Mem} {Q : Option Value → dk_Mem → Prop} (hd : decode μ.2.1 pc = .ok (.getfield 15, 3)) (hn : pc + 3 = n) (k : dk_W d μ n L (.int 0 :: st) M Q) (hm : μ.1.cls = "java/lang/String" := by rfl) : dk_W d μ pc L (.ref 202 :: st) M Q := by
  subst hn
  have hl : Cond.fieldLink μ.1.cls 15 "java/lang/String" "coder" "B" ∈ dk_T := by rw [hm]; exact dk_in (i := 1861) (by decide +kernel) rfl
  exact fun p l e R s m args below meth c H locs cells slots Z ls ad ca G A C hL hW hK => vk_getf C.1 C.2.1 ((hW.2.2.2.2.2.2.2.2.2.1.1 0 (by decide)).2.1) hW.2.2.2.1 C.2.2.2.1 (C.2.2.2.2.1 _ hl) (fun _ h => h) hd (k p l e R s m args below meth c H locs cells slots Z ls ad ca G A C hL hW hK)
theorem w_slen {d : Nat} {μ : dk_Mt} {pc n : Nat} {L : List (Option Value)} {st : List Value} {M : dk_Mem} {Q : Option Value → dk_Mem → Prop} (hd : decode μ.2.1 pc = .ok (.arraylength, 1)) (hn : pc + 1 = n) (k : dk_W d μ n L (.int (nI 92) :: st) M Q) : dk_W d μ pc L (.ref 203 :: st) M Q := by
  subst hn
  exact fun p l e R s m args below meth c H locs cells slots Z ls ad ca G A C hL hW hK => va_tlen C.1 C.2.1 ((hW.2.2.2.2.2.2.2.2.2.1.1 0 (by decide)).2.2.2) hW.2.2.2.1 rfl hd (k p l e R s m args below meth c H locs cells slots Z ls ad ca G A C hL hW hK)
theorem w_sbld {d : Nat} {μ : dk_Mt} {pc n : Nat} {L : List (Option Value)} {st : List Value} {M : dk_Mem} {Q : Option Value → dk_Mem → Prop} {j : Nat} (hj : j < 92) (hd : decode μ.2.1 pc = .ok (.baload, 1)) (hn : pc + 1 = n) (k : dk_W d μ n L (.int (dk_bytL.getD j 0) :: st) M Q) : dk_W d μ pc L (.int (nI j) :: .ref 203 :: st) M Q := by
  subst hn
  exact fun p l e R s m args below meth c H locs cells slots Z ls ad ca G A C hL hW hK => va_tb C.1 C.2.1 ((hW.2.2.2.2.2.2.2.2.2.1.1 0 (by decide)).2.2.2) hW.2.2.2.1 (vp_in_nI hj (by decide)) (by rw [nI_clamp (by omega)]; rfl) hd (k p l e R s m args below meth c H locs cells slots Z ls ad ca G A C hL hW hK)
theorem w_gets38 {d : Nat} {μ : dk_Mt} {pc n : Nat} {L : List (Option Value)} {st : List Value} {M : dk_Mem} {Q : Option Value → dk_Mem → Prop} (hd : decode μ.2.1 pc = .ok (.getstatic 38, 3)) (hn : pc + 3 = n) (k : dk_W d μ n L (.int 1 :: st) M Q) (hm : μ.1.cls = "java/lang/String" := by rfl) : dk_W d μ pc L st M Q := by
  subst hn
  have hl : Cond.fieldLink μ.1.cls 38 "java/lang/String" "COMPACT_STRINGS" "Z" ∈ dk_T := by rw [hm]; exact dk_in (i := 698) (by decide +kernel) rfl
  exact fun p l e R s m args below meth c H locs cells slots Z ls ad ca G A C hL hW hK => va_gets C.1 C.2.1 hW.2.2.2.2.2.2.2.2.2.2.1 hW.2.2.2.1 C.2.2.2.1 (C.2.2.2.2.1 _ hl) (fun _ h => h) hd (k p l e R s m args below meth c H locs cells slots Z ls ad ca G A C hL hW hK)
section DKS
variable {d : Nat} {μ ν : dk_Mt} {pc n idx n' ci p' : Nat} {L : List (Option Value)} {st As : List Value} {M : dk_Mem} {Q : Option Value → dk_Mem → Prop}
theorem w_cT (h0 : dk_S0 ν n') (h1 : dk_KV μ.1.cls idx ν) (hy : ν.1.cls = "java/lang/String") (hlen : As.length = n') (hc : (st.map Value.category).sum ≤ 8) (hd : decode μ.2.1 pc = .ok (.invokevirtual idx, 3)) (hn : pc + 3 = n) (k : dk_Call d ν (.ref 202 :: As) M (fun v M' => dk_W (d + 1) μ n L (v.toList ++ st) M' Q)) : dk_W (d + 1) μ pc L (As.reverse ++ .ref 202 :: st) M Q := by
  subst hn
  intro p l e R s m args below meth c H locs cells slots Z ls ad ca G A Cx hL hW hK
  obtain ⟨hx, hb, hml, hown, hts, hf1, hf2, hc1, hc2⟩ := id Cx
  have wS := hW.2.2.2.1
  have hrec := vk_recv (i := 0) hW.2.2.2.2.2.2.2.2.2.1 (by decide) wS
  rw [← hy] at hrec
  have hr := va_runV (p := p) (e := e) (below := below) (meth := meth) (locs := locs) (b := ad 202) (As := As.map (dk_rv ad)) (rest := st.map (dk_rv ad)) (g := F0 m pc ls ((As.reverse ++ .ref 202 :: st).map (dk_rv ad))) ⟨hx, hb, hml, hown, hts⟩ (k l ad ca G A) ⟨dk_cb Cx h0 h1.1, hts _ h1.2.1, hts _ h1.2.2⟩ ⟨dk_blind, hrec, fun U hU hw => dk_pre (As := .ref 202 :: As) hW hU hw⟩ rfl (by rw [List.length_map]; exact hlen) hL.1 (by simp [dk_rv]) (lv_room (by rw [dk_cats]; exact hc)) hd ⟨hc1, hc2⟩
  exact dk_goesOn hr wS (fun v M' H1 locs1 hq hP hD hS => by
    have h := hq p l e R s m args below meth c H1 locs1 cells slots Z ls ad ca G A Cx hL ⟨hW.1, hP, hD, hS, hW.2.2.2.2⟩ hK
    rw [dk_toL] at h
    exact h)

end DKS
theorem w_cT0 {d : Nat} {μ ν : dk_Mt} {pc n idx : Nat} {L : List (Option Value)} {st : List Value} {M : dk_Mem} {Q : Option Value → dk_Mem → Prop} (h0 : dk_S0 ν 0) (h1 : dk_KV μ.1.cls idx ν) (hc : (st.map Value.category).sum ≤ 8) (hd : decode μ.2.1 pc = .ok (.invokevirtual idx, 3)) (hn : pc + 3 = n) (k : dk_Call d ν (.ref 202 :: []) M (fun v M' => dk_W (d + 1) μ n L (v.toList ++ st) M' Q)) (hy : ν.1.cls = "java/lang/String" := by rfl) : dk_W (d + 1) μ pc L (.ref 202 :: st) M Q := w_cT (As := []) h0 h1 hy rfl hc hd hn k
theorem w_cT1 {d : Nat} {μ ν : dk_Mt} {pc n idx : Nat} {L : List (Option Value)} {st : List Value} {M : dk_Mem} {Q : Option Value → dk_Mem → Prop} {a1 : Value} (h0 : dk_S0 ν 1) (h1 : dk_KV μ.1.cls idx ν) (hc : (st.map Value.category).sum ≤ 8) (hd : decode μ.2.1 pc = .ok (.invokevirtual idx, 3)) (hn : pc + 3 = n) (k : dk_Call d ν (.ref 202 :: [a1]) M (fun v M' => dk_W (d + 1) μ n L (v.toList ++ st) M' Q)) (hy : ν.1.cls = "java/lang/String" := by rfl) : dk_W (d + 1) μ pc L (a1 :: .ref 202 :: st) M Q := w_cT (As := [a1]) h0 h1 hy rfl hc hd hn k
theorem j_coder {d : Nat} {M : dk_Mem} {Q : Option Value → dk_Mem → Prop} (hq : Q (some (.int 0)) M) : dk_Call d mJ0_coder_7d493 [.ref 202] M Q := by
  refine dk_enter [some (.ref 202)] (by decide) (fun _ => rfl) (fun _ => Nat.le_of_ble_eq_true rfl) ?_
  refine w_gets38 (n := 3) dJ0_coder_7d493_0 rfl ?_
  refine w_if_eq (n := 6) 13 dJ0_coder_7d493_3 (by decide) rfl (fun z => absurd z (by decide)) (fun _ => ?_)
  refine w_al0 (n := 7) dJ0_coder_7d493_6 rfl ?_
  refine w_scod (n := 10) dJ0_coder_7d493_7 rfl ?_
  refine w_goto 14 dJ0_coder_7d493_10 (by decide) ?_
  exact w_iret dJ0_coder_7d493_14 rfl rfl hq

theorem j_latin {d : Nat} {M : dk_Mem} {Q : Option Value → dk_Mem → Prop} (hq : Q (some (.int 1)) M) : dk_Call d mJ0_isLatin1_aae02 [.ref 202] M Q := by
  refine dk_enter [some (.ref 202)] (by decide) (fun _ => rfl) (fun _ => Nat.le_of_ble_eq_true rfl) ?_
  refine w_gets38 (n := 3) dJ0_isLatin1_aae02_0 rfl ?_
  refine w_if_eq (n := 6) 17 dJ0_isLatin1_aae02_3 (by decide) rfl (fun z => absurd z (by decide)) (fun _ => ?_)
  refine w_al0 (n := 7) dJ0_isLatin1_aae02_6 rfl ?_
  refine w_scod (n := 10) dJ0_isLatin1_aae02_7 rfl ?_
  refine w_if_ne (n := 13) 17 dJ0_isLatin1_aae02_10 (by decide) rfl (fun z => absurd rfl z) (fun _ => ?_)
  refine w_iconst (n := 14) (nI 1) dJ0_isLatin1_aae02_13 (by decide) rfl ?_
  refine w_goto 18 dJ0_isLatin1_aae02_14 (by decide) ?_
  exact w_iret dJ0_isLatin1_aae02_18 rfl rfl hq

theorem j_length {d : Nat} {M : dk_Mem} {Q : Option Value → dk_Mem → Prop} (hq : Q (some (.int (nI 92))) M) : dk_Call (d + 1) mJ0_length_8abf5 [.ref 202] M Q := by
  refine dk_enter [some (.ref 202)] (by decide) (fun _ => rfl) (fun _ => Nat.le_of_ble_eq_true rfl) ?_
  refine w_al0 (n := 1) dJ0_length_8abf5_0 rfl ?_
  refine w_sval (n := 4) dJ0_length_8abf5_1 rfl ?_
  refine w_slen (n := 5) dJ0_length_8abf5_4 rfl ?_
  refine w_al0 (n := 6) dJ0_length_8abf5_5 rfl ?_
  refine w_cT0 (n := 9) s0_J0_coder_7d493 k_J0_335 (Nat.le_of_ble_eq_true rfl) dJ0_length_8abf5_6 rfl (j_coder ?_)
  refine w_ishr (n := 10) dJ0_length_8abf5_9 rfl ?_
  refine w_retI dJ0_length_8abf5_10 rfl ?_
  exact hq

theorem j_ci3 {d : Nat} {M : dk_Mem} {Q : Option Value → dk_Mem → Prop} {i n : Nat} {v : Value} (hv : v.category = 1) (hi : i < n) (hn : n < 2 ^ 31) (hq : Q (some (.int (nI i))) M) : dk_Call d mJ3_checkIndex_8e157 [.int (nI i), .int (nI n), v] M Q := by
  refine dk_enter [some (.int (nI i)), some (.int (nI n)), some v] (by decide) (fun _ => rfl) (fun ad => ?_) ?_
  · cases v <;> first | exact Nat.le_of_ble_eq_true rfl | (simp [Value.category] at hv)
  refine w_il0 (n := 1) dJ3_checkIndex_8e157_0 rfl ?_
  refine w_if_lt (n := 4) 9 dJ3_checkIndex_8e157_1 (by decide) rfl (fun z => absurd z (nI_lt0 (by omega))) (fun _ => ?_)
  refine w_il0 (n := 5) dJ3_checkIndex_8e157_4 rfl ?_
  refine w_il1 (n := 6) dJ3_checkIndex_8e157_5 rfl ?_
  refine w_ic_lt (n := 9) 16 dJ3_checkIndex_8e157_6 (by decide) rfl (fun _ => ?_) (fun z => absurd ((nI_ltI (by omega) hn).mpr hi) z)
  refine w_il0 (n := 17) dJ3_checkIndex_8e157_16 rfl ?_
  refine w_retI dJ3_checkIndex_8e157_17 rfl ?_
  exact hq

theorem dk_rf_120 {p k q : Nat} (h : dk_rf p k = some q) : q < 120 := by
  have hall : (dk_rfL.all (fun l => l.all (fun o => match o with
    | some q => decide (q < 120)
    | none => true))) = true := by decide
  unfold dk_rf at h
  rw [List.all_eq_true] at hall
  by_cases hp : p < dk_rfL.length
  · have e1 : dk_rfL.getD p [] = dk_rfL[p] := by rw [List.getD_eq_getElem?_getD, List.getElem?_eq_getElem hp]; rfl
    rw [e1] at h
    have h2 := hall _ (List.getElem_mem hp)
    rw [List.all_eq_true] at h2
    by_cases hk : k < (dk_rfL[p]).length
    · rw [List.getD_eq_getElem?_getD, List.getElem?_eq_getElem hk] at h
      have h3 := h2 _ (List.getElem_mem hk)
      have h4 : (dk_rfL[p])[k] = some q := h
      rw [h4] at h3
      exact decide_eq_true_iff.mp h3
    · rw [List.getD_eq_getElem?_getD, List.getElem?_eq_none (by omega)] at h
      cases h
  · have e1 : dk_rfL.getD p [] = [] := by rw [List.getD_eq_getElem?_getD, List.getElem?_eq_none (by omega)]; rfl
    rw [e1] at h
    cases h
theorem dk_ws_ad {ad ad' : Nat → Nat} {ca : Nat → ClassId} {M : dk_Mem} (h : ∀ q, q < 4294967296 → ad' q = ad q) : dk_ws ad' ca M = dk_ws ad ca M := by
  have h1 : ∀ o : Option Nat, (∀ q, o = some q → q < 4294967296) → o.map ad' = o.map ad := fun o ho => by
    cases o with
    | none => rfl
    | some q => show some (ad' q) = some (ad q); rw [h q (ho q rfl)]
  have h2 : ∀ p k, (dk_rf p k).map ad' = (dk_rf p k).map ad := fun p k => h1 _ (fun q e => by have := dk_rf_120 e; omega)
  have h3 : ∀ p k, (dk_ref M p k).map ad' = (dk_ref M p k).map ad := fun p k => h1 _ (fun q e => by
    unfold dk_ref at e
    split at e
    · cases e
    · cases e
      have := Int32.toInt_lt (M.1 p k)
      unfold Int32.toNatClampNeg
      omega)
  unfold dk_ws
  refine List.map_congr_left (fun p hp => ?_)
  rw [List.mem_range] at hp
  have e1 : dk_cell ad' ca M p = dk_cell ad ca M p := by
    have e : dk_fv ad' M p (dk_sh p) = dk_fv ad M p (dk_sh p) := by
      funext k
      simp only [dk_fv, h2, h3]
    simp only [dk_cell, dk_fs, e, h2]
  rw [e1, h p (by omega)]
theorem dk_Wo.ad {ad ad' : Nat → Nat} {ca : Nat → ClassId} {G : va_G} {A : Nat → Prop} {s : State} {H : Heap} {locs : List Loc} {M : dk_Mem} (h : ∀ q, q < 4294967296 → ad' q = ad q) (hW : dk_Wo ad ca G A s H locs M) : dk_Wo ad' ca G A s H locs M := by
  obtain ⟨h1, h2, h3, h4, h5⟩ := hW
  refine ⟨h1, by rw [dk_ws_ad h]; exact h2, by rw [dk_ws_ad h]; exact h3, h4, ?_⟩
  unfold dk_St at h5 ⊢
  rw [h 200 (by omega), h 201 (by omega), h 202 (by omega), h 203 (by omega)]
  exact h5

theorem j_ci {d : Nat} {M : dk_Mem} {Q : Option Value → dk_Mem → Prop} {i n : Nat} (hi : i < n) (hn : n < 2 ^ 31) (hq : Q none M) : dk_Call (d + 1) mJ0_checkIndex_df160 [.int (nI i), .int (nI n)] M Q := by
  have hk : ∀ v : Value, v.category = 1 → dk_W (d + 1) mJ0_checkIndex_df160 5 [some (.int (nI i)), some (.int (nI n))] [v, .int (nI n), .int (nI i)] M (fun u M2 => u = none ∧ Q u M2) := fun v hv => by
    refine w_cS3 (n := 8) s0_J3_checkIndex_8e157 k_J0_1059 (Nat.le_of_ble_eq_true rfl) dJ0_checkIndex_df160_5 rfl (j_ci3 hv hi hn ?_)
    refine w_pop (n := 9) rfl dJ0_checkIndex_df160_8 rfl ?_
    exact w_ret dJ0_checkIndex_df160_9 rfl ⟨rfl, hq⟩
  refine dk_enter [some (.int (nI i)), some (.int (nI n))] (by decide) (fun _ => rfl) (fun _ => Nat.le_of_ble_eq_true rfl) ?_
  refine w_il0 (n := 1) dJ0_checkIndex_df160_0 rfl ?_
  refine w_il1 (n := 2) dJ0_checkIndex_df160_1 rfl ?_
  have hl : Cond.fieldLink "java/lang/String" 1053 "jdk/internal/util/Preconditions" "SIOOBE_FORMATTER" "Ljava/util/function/BiFunction;" ∈ dk_T := dk_in (i := 714) (by decide +kernel) rfl
  intro p l e R s m args below meth c H locs cells slots Z ls ad ca G A C hL hW hK
  have hz := hW.2.2.2.2.2.2.2.2.2.2.2.1
  rcases hz with hz | ⟨t, hz⟩
  · refine va_gets C.1 C.2.1 hz hW.2.2.2.1 C.2.2.2.1 (C.2.2.2.2.1 _ hl) (fun _ h => h) dJ0_checkIndex_df160_2 ?_
    exact hk .null rfl p l e R s m args below meth c H locs cells slots Z ls ad ca G A C hL hW (fun v M' H' locs' hv hw => hK v M' H' locs' hv.2 hw)
  · refine va_gets C.1 C.2.1 hz hW.2.2.2.1 C.2.2.2.1 (C.2.2.2.2.1 _ hl) (fun _ h => h) dJ0_checkIndex_df160_2 ?_
    have had : ∀ q, q < 4294967296 → (fun q => if q = 4294967296 then t else ad q) q = ad q := fun q hq => if_neg (by omega)
    have h9 := hk (.ref 4294967296) rfl p l e R s m args below meth c H locs cells slots Z ls (fun q => if q = 4294967296 then t else ad q) ca G A C hL (hW.ad had) (fun v M' H' locs' hv hw => by
      have h8 := hK v M' H' locs' hv.2 (hw.ad (fun q hq => (had q hq).symm))
      rw [hv.1] at h8 ⊢
      exact h8)
    have e9 : dk_rv (fun q => if q = 4294967296 then t else ad q) (.ref 4294967296) = .ref t := by show Value.ref (if _ then _ else _) = _; rw [if_pos rfl]
    simp only [List.map_cons, List.map_nil, e9] at h9
    exact h9

theorem sb_chr : ∀ j, j < 92 → ((dk_bytL.getD j 0 &&& nI 255).toUInt32 % 65536).toInt32 = dk_bytL.getD j 0 ∧ narrow .char (.int (dk_bytL.getD j 0)) = .int (dk_bytL.getD j 0) := by decide +kernel

theorem j_cA1 {d : Nat} {M : dk_Mem} {Q : Option Value → dk_Mem → Prop} {j : Nat} (hj : j < 92) (hq : Q (some (.int (dk_bytL.getD j 0))) M) : dk_Call (d + 2) mJ1_charAt_3b067 [.ref 203, .int (nI j)] M Q := by
  refine dk_enter [some (.ref 203), some (.int (nI j))] (by decide) (fun _ => rfl) (fun _ => Nat.le_of_ble_eq_true rfl) ?_
  refine w_il1 (n := 1) dJ1_charAt_3b067_0 rfl ?_
  refine w_al0 (n := 2) dJ1_charAt_3b067_1 rfl ?_
  refine w_slen (n := 3) dJ1_charAt_3b067_2 rfl ?_
  refine w_cS2 (n := 6) s0_J0_checkIndex_df160 k_J1_9 (Nat.le_of_ble_eq_true rfl) dJ1_charAt_3b067_3 rfl (j_ci hj (by decide) ?_)
  refine w_al0 (n := 7) dJ1_charAt_3b067_6 rfl ?_
  refine w_il1 (n := 8) dJ1_charAt_3b067_7 rfl ?_
  refine w_sbld (n := 9) hj dJ1_charAt_3b067_8 rfl ?_
  refine w_sipush (n := 12) (nI 255) dJ1_charAt_3b067_9 (by decide) rfl ?_
  refine w_iand (n := 13) dJ1_charAt_3b067_12 rfl ?_
  refine w_i2c (n := 14) dJ1_charAt_3b067_13 rfl ?_
  rw [(sb_chr j hj).1]
  exact w_iret dJ1_charAt_3b067_14 rfl (sb_chr j hj).2 hq

theorem j_charAt {d : Nat} {M : dk_Mem} {Q : Option Value → dk_Mem → Prop} {j : Nat} (hj : j < 92) (hq : Q (some (.int (dk_bytL.getD j 0))) M) : dk_Call (d + 3) mJ0_charAt_5068e [.ref 202, .int (nI j)] M Q := by
  refine dk_enter [some (.ref 202), some (.int (nI j))] (by decide) (fun _ => rfl) (fun _ => Nat.le_of_ble_eq_true rfl) ?_
  refine w_al0 (n := 1) dJ0_charAt_5068e_0 rfl ?_
  refine w_cT0 (n := 4) s0_J0_isLatin1_aae02 k_J0_492 (Nat.le_of_ble_eq_true rfl) dJ0_charAt_5068e_1 rfl (j_latin ?_)
  refine w_if_eq (n := 7) 16 dJ0_charAt_5068e_4 (by decide) rfl (fun z => absurd z (by decide)) (fun _ => ?_)
  refine w_al0 (n := 8) dJ0_charAt_5068e_7 rfl ?_
  refine w_sval (n := 11) dJ0_charAt_5068e_8 rfl ?_
  refine w_il1 (n := 12) dJ0_charAt_5068e_11 rfl ?_
  refine w_cS2 (n := 15) s0_J1_charAt_3b067 k_J0_495 (Nat.le_of_ble_eq_true rfl) dJ0_charAt_5068e_12 rfl (j_cA1 hj ?_)
  exact w_iret dJ0_charAt_5068e_15 rfl (sb_chr j hj).2 hq
