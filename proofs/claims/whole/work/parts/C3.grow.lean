/-! ===== a growing world: places below np stand, the references are numbers in the memory ===== -/
def gk_fv (ad : Nat → Nat) (M : dk_Mem) (p c k : Nat) : Value := if dk_ft c k < 2 then .int (M.1 p k) else va_rf ((dk_ref M p k).map ad)
def gk_fs (ad : Nat → Nat) (M : dk_Mem) (p c : Nat) : List Value := (List.range (dk_fn c)).map (gk_fv ad M p c)
def gk_cell (ad : Nat → Nat) (ca : Nat → ClassId) (M : dk_Mem) (p : Nat) : va_E :=
  if dk_sh p < 20 then .inr (dk_sh p, gk_fs ad M p (dk_sh p))
  else if dk_sh p < 23 then .inl (ca (dk_sh p), dk_len p, .inl (M.1 p))
  else if dk_sh p = 23 then .inl (ca 23, dk_len p, .inr (.inl (M.2 p)))
  else .inl (ca (dk_sh p), dk_len p, .inr (.inr (.inr (.inr (fun i => (dk_ref M p i).map ad)))))
def gk_ws (ad : Nat → Nat) (ca : Nat → ClassId) (M : dk_Mem) (np : Nat) : va_W := (List.range np).map (fun p => (ad p, gk_cell ad ca M p))
def gk_z (p : Nat) : Nat := if dk_sh p < 20 then dk_fn (dk_sh p) else dk_len p
def gk_sl : Nat → Nat
  | 0 => 0
  | n + 1 => gk_sl n + gk_z n
def gk_M0 : dk_Mem := (fun p k => if (dk_sh p < 20 ∧ ¬ dk_ft (dk_sh p) k < 2) ∨ 24 ≤ dk_sh p then -1 else 0, fun _ _ => 0)
def gk_un (M : dk_Mem) (np : Nat) : Prop := ∀ p, np ≤ p → M.1 p = gk_M0.1 p ∧ M.2 p = gk_M0.2 p
def gk_nl : List (String × Nat × String) := [("DominoKin", 9, "DominoKin$Piece"), ("DominoKin", 12, "DominoKin$Aunt"), ("DominoKin$Aunt", 1, "DominoKin$Piece"), ("DominoKin", 15, "DominoKin$Father"), ("DominoKin$Father", 1, "DominoKin$Piece"), ("DominoKin", 18, "DominoKin$Eldest"), ("DominoKin$Eldest", 1, "DominoKin$Father"), ("DominoKin", 21, "DominoKin$Girl"), ("DominoKin$Girl", 1, "DominoKin$Piece"), ("DominoKin", 24, "DominoKin$Sailor"), ("DominoKin$Sailor", 1, "DominoKin$Girl"), ("DominoKin$Street", 39, "DominoKin$Moment"), ("DominoKin$Street", 55, "DominoKin$RuleBook"), ("DominoKin$Street", 62, "DominoKin$Reports"), ("DominoKin$Planner", 30, "DominoKin$Moment"), ("DominoKin", 58, "DominoKin$Moment"), ("DominoKin", 73, "DominoKin$RuleBook")]
def gk_AO (U : State) : Prop := va_AO "DominoKin$Piece" U ∧ va_AO "DominoKin$Moment" U ∧ (Cond.arrayOver (.array .int)).before #[] U = true ∧ va_Nw (.castable "DominoKin$Aunt" "DominoKin$Piece") U ∧ va_Nw (.castable "DominoKin$Father" "DominoKin$Piece") U ∧ va_Nw (.castable "DominoKin$Eldest" "DominoKin$Piece") U ∧ va_Nw (.castable "DominoKin$Girl" "DominoKin$Piece") U ∧ va_Nw (.castable "DominoKin$Sailor" "DominoKin$Piece") U ∧ ∀ q ∈ gk_nl, va_Nw (.methodLinkNest q.1 q.2.1 ⟨q.2.2, "<init>", "()V"⟩ "DominoKin") U
theorem gk_AO.warm {s U : State} (hW : s.WarmedH U.vm) (h : gk_AO s) : gk_AO U := by
  obtain ⟨a1, a2, a3, a4, a5, a6, a7, a8, a9⟩ := h
  exact ⟨a1.moved hW.alike, a2.moved hW.alike, over_moved hW.alike a3, va_Nw.warmC hW a4, va_Nw.warmC hW a5, va_Nw.warmC hW a6, va_Nw.warmC hW a7, va_Nw.warmC hW a8, fun q hq => va_Nw.warmM hW (a9 q hq)⟩
def gk_I (ad : Nat → Nat) (A : Nat → Prop) (s : State) (M : dk_Mem) (np cells slots n0 : Nat) : Prop :=
  (∀ q, q < 120 → ad q = ad 0 + q) ∧ n0 ≤ np ∧ cells = np - n0 ∧ slots + gk_sl n0 = gk_sl np ∧ gk_un M np ∧ (∀ q, ad 0 ≤ q → A q) ∧ s.heap.size = ad 0 + n0 ∧ np ≤ 120 ∧ gk_AO s
def gk_Wo (ad : Nat → Nat) (ca : Nat → ClassId) (G : va_G) (A : Nat → Prop) (s : State) (H : Heap) (locs : List Loc) (M : dk_Mem) (np cells slots n0 : Nat) : Prop :=
  va_K G vwCl (dk_tys ca) s ∧ va_P G vwCl (gk_ws ad ca M np) H ∧ va_D A (gk_ws ad ca M np) ∧ va_S A s.heap H locs ∧ gk_I ad A s M np cells slots n0
def gk_Cx (p : Program) (l : Launch) (e : Env) (R : Room) (s : State) (m : MethodId) (args : Array Value) (meth : Method) (c : Code) (μ : dk_Mt) (d n0 nx : Nat) : Prop :=
  p.tables.exec = Jvm.exec ∧ c.code = μ.2.1 ∧ c.maxLocals = μ.2.2.1 ∧ s.vm.findClass μ.1.cls = some m.cls ∧ (∀ w ∈ dk_T, w.before args s = true) ∧ d ≤ R.frames ∧ 64 * d ≤ R.locals ∧ nx - n0 ≤ R.cells ∧ gk_sl nx - gk_sl n0 ≤ R.slots ∧ meth.name = μ.1.name ∧ nx ≤ 120
def gk_W (n0 nx d : Nat) (μ : dk_Mt) (pc : Nat) (L : List (Option Value)) (st : List Value) (M : dk_Mem) (np : Nat) (Q : dk_Mem → Prop) : Prop :=
  ∀ (p : Program) (l : Launch) (e : Env) (R : Room) (s : State) (m : MethodId) (args : Array Value) (below : List Frame) (meth : Method) (c : Code) (H : Heap) (locs : List Loc) (cells slots : Nat) (Z : State → Prop) (ls : Array Slot) (ad : Nat → Nat) (ca : Nat → ClassId) (G : va_G) (A : Nat → Prop),
    gk_Cx p l e R s m args meth c μ d n0 nx → dk_Lv ad L ls μ.2.2.1 → gk_Wo ad ca G A s H locs M np cells slots n0 →
    (∀ (M' : dk_Mem) (H' : Heap) (locs' : List Loc) (cells' slots' : Nat), Q M' → gk_Wo ad ca G A s H' locs' M' nx cells' slots' n0 → ∀ (pc' : Nat) (ls' : Array Slot), decode μ.2.1 pc' = .ok (.return_, 1) → W p l e R s m args below meth c H' locs' cells' slots' Z (F0 m pc' ls' [])) →
    W p l e R s m args below meth c H locs cells slots Z (F0 m pc ls (st.map (dk_rv ad)))
theorem gk_sl_le {a : Nat} : ∀ {b : Nat}, a ≤ b → gk_sl a ≤ gk_sl b
  | 0, h => by rw [show a = 0 by omega]; exact Nat.le_refl _
  | b + 1, h => by
    rcases (show a ≤ b ∨ a = b + 1 by omega) with h1 | h1
    · exact Nat.le_trans (gk_sl_le h1) (Nat.le_add_right _ _)
    · rw [h1]; exact Nat.le_refl _
theorem gk_ws_at {ad : Nat → Nat} {ca : Nat → ClassId} {M : dk_Mem} {np p : Nat} (hp : p < np) : (gk_ws ad ca M np)[p]? = some (ad p, gk_cell ad ca M p) := by
  unfold gk_ws
  rw [List.getElem?_map, List.getElem?_range hp]
  rfl
theorem gk_ws_set {ad : Nat → Nat} {ca : Nat → ClassId} {M M' : dk_Mem} {np p : Nat} {e : va_E} (hp : p < np) (he : gk_cell ad ca M' p = e) (ho : ∀ q, q ≠ p → gk_cell ad ca M' q = gk_cell ad ca M q) : (gk_ws ad ca M np).set p (ad p, e) = gk_ws ad ca M' np := by
  subst he
  apply List.ext_getElem?
  intro k
  by_cases hk : k = p
  · subst hk
    rw [List.getElem?_set_self (by simp [gk_ws]; exact hp), gk_ws_at hp]
  · rw [List.getElem?_set_ne (Ne.symm hk)]
    by_cases hk2 : k < np
    · rw [gk_ws_at hk2, gk_ws_at hk2, ho k hk]
    · rw [List.getElem?_eq_none (by simp [gk_ws]; omega), List.getElem?_eq_none (by simp [gk_ws]; omega)]
theorem gk_ws_s {ad : Nat → Nat} {ca : Nat → ClassId} {M : dk_Mem} {np : Nat} : gk_ws ad ca M (np + 1) = gk_ws ad ca M np ++ [(ad np, gk_cell ad ca M np)] := by
  unfold gk_ws
  rw [List.range_succ, List.map_append]
  rfl
theorem gk_cell_congr {ad : Nat → Nat} {ca : Nat → ClassId} {M M' : dk_Mem} {q : Nat} (h1 : M'.1 q = M.1 q) (h2 : M'.2 q = M.2 q) : gk_cell ad ca M' q = gk_cell ad ca M q := by
  have e : gk_fv ad M' q (dk_sh q) = gk_fv ad M q (dk_sh q) := by
    funext k
    simp only [gk_fv, dk_ref, h1]
  have e2 : (fun i => (dk_ref M' q i).map ad) = fun i => (dk_ref M q i).map ad := by
    funext k
    simp only [dk_ref, h1]
  simp only [gk_cell, gk_fs, h1, h2, e, e2]
theorem gk_cell_o {ad : Nat → Nat} {ca : Nat → ClassId} {M : dk_Mem} {p ci : Nat} (h : dk_sh p = ci) (hc : ci < 20) : gk_cell ad ca M p = .inr (ci, gk_fs ad M p ci) := by
  subst h
  simp only [gk_cell, if_pos hc]
theorem gk_cell_i {ad : Nat → Nat} {ca : Nat → ClassId} {M : dk_Mem} {p t : Nat} (h : dk_sh p = t) (h1 : ¬ t < 20) (h2 : t < 23) : gk_cell ad ca M p = .inl (ca t, dk_len p, .inl (M.1 p)) := by
  subst h
  simp only [gk_cell, if_neg h1, if_pos h2]
theorem gk_cell_l {ad : Nat → Nat} {ca : Nat → ClassId} {M : dk_Mem} {p : Nat} (h : dk_sh p = 23) : gk_cell ad ca M p = .inl (ca 23, dk_len p, .inr (.inl (M.2 p))) := by
  simp [gk_cell, h]
theorem gk_cell_q {ad : Nat → Nat} {ca : Nat → ClassId} {M : dk_Mem} {p t : Nat} (h : dk_sh p = t) (h1 : 23 < t) : gk_cell ad ca M p = .inl (ca t, dk_len p, .inr (.inr (.inr (.inr (fun i => (dk_ref M p i).map ad))))) := by
  subst h
  simp only [gk_cell, if_neg (show ¬ dk_sh p < 20 by omega), if_neg (show ¬ dk_sh p < 23 by omega), if_neg (show ¬ dk_sh p = 23 by omega)]
theorem gk_fs_at {ad : Nat → Nat} {M : dk_Mem} {p c k : Nat} (hk : k < dk_fn c) : (gk_fs ad M p c)[k]? = some (gk_fv ad M p c k) := by
  unfold gk_fs
  rw [List.getElem?_map, List.getElem?_range hk]
  rfl
theorem gk_fs_len {ad : Nat → Nat} {M : dk_Mem} {p c : Nat} : (gk_fs ad M p c).length = dk_fn c := by simp [gk_fs]
theorem gk_fs_set {ad : Nat → Nat} {M : dk_Mem} {p c k : Nat} {x : Int32} (hk : k < dk_fn c) (hd : ∀ j, j < dk_fn c → j ≠ k → gk_fv ad (dk_put M p k x) p c j = gk_fv ad M p c j) : (gk_fs ad M p c).set k (gk_fv ad (dk_put M p k x) p c k) = gk_fs ad (dk_put M p k x) p c := by
  apply List.ext_getElem?
  intro j
  by_cases hj : j = k
  · subst hj
    rw [List.getElem?_set_self (by rw [gk_fs_len]; exact hk), gk_fs_at hk]
  · rw [List.getElem?_set_ne (Ne.symm hj)]
    by_cases h2 : j < dk_fn c
    · rw [gk_fs_at h2, gk_fs_at h2, hd j h2 hj]
    · rw [List.getElem?_eq_none (by rw [gk_fs_len]; omega), List.getElem?_eq_none (by rw [gk_fs_len]; omega)]
theorem gk_fv_ne {ad : Nat → Nat} {M : dk_Mem} {p c k j : Nat} {x : Int32} (h : j ≠ k) : gk_fv ad (dk_put M p k x) p c j = gk_fv ad M p c j := by
  have e : (dk_put M p k x).1 p j = M.1 p j := by simp [dk_put, h]
  simp only [gk_fv, dk_ref, e]
theorem gk_I.put {ad : Nat → Nat} {A : Nat → Prop} {s : State} {M : dk_Mem} {np cells slots n0 p k : Nat} {x : Int32} (h : gk_I ad A s M np cells slots n0) (hp : p < np) : gk_I ad A s (dk_put M p k x) np cells slots n0 := by
  obtain ⟨i1, i3, i4, i5, i6, i7, i8, i9, iA⟩ := h
  exact ⟨i1, i3, i4, i5, fun q hq => ⟨by rw [dk_put_ne (by omega)]; exact (i6 q hq).1, (i6 q hq).2⟩, i7, i8, i9, iA⟩
theorem gk_size {p : Program} {l : Launch} {e : Env} {R : Room} {s : State} {m : MethodId} {args : Array Value} {below : List Frame} {meth : Method} {c : Code} {H : Heap} {locs : List Loc} {cells slots : Nat} {Z : State → Prop} {ad : Nat → Nat} {ca : Nat → ClassId} {G : va_G} {A : Nat → Prop} {M : dk_Mem} {np n0 : Nat} {g : JFrame} (hW : gk_Wo ad ca G A s H locs M np cells slots n0) (k : H.size = ad 0 + np → W p l e R s m args below meth c H locs cells slots Z g) : W p l e R s m args below meth c H locs cells slots Z g := by
  intro T hT X
  have h1 := X.heapSize
  rw [hT] at h1
  obtain ⟨wK, wP, wD, wS, i1, i3, i4, i5, i6, i7, i8, i9, iA⟩ := hW
  have h2 := wS.1
  refine k ?_ T hT X
  by_cases e0 : np = 0
  · omega
  · have h3 : ad (np - 1) < H.size := (wP (np - 1) _ (gk_ws_at (by omega))).lt
    rw [i1 (np - 1) (by omega)] at h3
    omega
theorem gk_un_s {M : dk_Mem} {np : Nat} (h : gk_un M np) : gk_un M (np + 1) := fun p hp => h p (by omega)
theorem gk_grow {s : State} {H H1 : Heap} {locs : List Loc} {cells slots : Nat} {ad : Nat → Nat} {ca : Nat → ClassId} {G : va_G} {A : Nat → Prop} {M : dk_Mem} {np n0 : Nat} (hW : gk_Wo ad ca G A s H locs M np cells slots n0) (h120 : np < 120) (hsz : H.size = ad 0 + np) (z1 : H1.size = H.size + 1) (o1 : ∀ q, q < H.size → H1[q]? = H[q]?) (hnew : va_at G vwCl (ad np, gk_cell ad ca M np) H1) : gk_Wo ad ca G A s H1 locs M (np + 1) (cells + 1) (slots + gk_z np) n0 := by
  obtain ⟨wK, wP, wD, wS, i1, i3, i4, i5, i6, i7, i8, i9, iA⟩ := hW
  have hadn : ad np = H.size := by rw [i1 np (by omega), hsz]
  have hk : ∀ (k : Nat) (x : Nat × va_E), (gk_ws ad ca M np)[k]? = some x → H1[x.1]? = H[x.1]? := fun k x hx => o1 x.1 ((wP k x hx).lt)
  have wP1 : va_P G vwCl (gk_ws ad ca M (np + 1)) H1 := by
    rw [gk_ws_s]
    refine (wP.kept hk).app (fun k x hx => ?_)
    have hz : k < 1 := (List.getElem?_eq_some_iff.mp hx).1
    rw [show k = 0 by omega] at hx
    cases hx
    exact hnew
  have wD1 : va_D A (gk_ws ad ca M (np + 1)) := by
    rw [gk_ws_s]
    exact wD.push wP hadn (i7 _ (by rw [i1 np (by omega)]; omega))
  exact ⟨wK, wP1, wD1, ⟨Nat.le_trans wS.1 (by omega), fun x q1 q2 => (o1 x (Nat.lt_of_lt_of_le q1 wS.1)).trans (wS.2.1 x q1 q2), wS.2.2⟩, i1, by omega, by omega, by rw [gk_sl]; omega, gk_un_s i6, i7, i8, by omega, iA⟩
section GKW
variable {n0 nx d : Nat} {μ ν : dk_Mt} {pc n idx n' ci p' np : Nat} {L : List (Option Value)} {st As : List Value} {M : dk_Mem} {Q : dk_Mem → Prop} {C : String} {T : u_T} {N : Nat} {ty0 : Nat → FieldType}

theorem gw_iconst {i : Int} (v : Int32) (hd : decode μ.2.1 pc = .ok (.iconst i, 1)) (hv : Int32.ofInt i = v) (hn : pc + 1 = n) (k : gk_W n0 nx d μ n L (.int v :: st) M np Q) : gk_W n0 nx d μ pc L (st) M np Q := by
  subst hn
  exact fun p l e R s m args below meth c H locs cells slots Z ls ad ca G A C hL hW hK => lv_iconst (v := v) C.1 C.2.1 hd hv (k p l e R s m args below meth c H locs cells slots Z ls ad ca G A C hL hW hK)

theorem gw_bipush {i : Int} (v : Int32) (hd : decode μ.2.1 pc = .ok (.bipush i, 2)) (hv : (Int8.ofInt i).toInt32 = v) (hn : pc + 2 = n) (k : gk_W n0 nx d μ n L (.int v :: st) M np Q) : gk_W n0 nx d μ pc L (st) M np Q := by
  subst hn
  exact fun p l e R s m args below meth c H locs cells slots Z ls ad ca G A C hL hW hK => lv_bipush (v := v) C.1 C.2.1 hd hv (k p l e R s m args below meth c H locs cells slots Z ls ad ca G A C hL hW hK)

theorem gw_sipush {i : Int} (v : Int32) (hd : decode μ.2.1 pc = .ok (.sipush i, 3)) (hv : (Int16.ofInt i).toInt32 = v) (hn : pc + 3 = n) (k : gk_W n0 nx d μ n L (.int v :: st) M np Q) : gk_W n0 nx d μ pc L (st) M np Q := by
  subst hn
  exact fun p l e R s m args below meth c H locs cells slots Z ls ad ca G A C hL hW hK => lv_sipush (v := v) C.1 C.2.1 hd hv (k p l e R s m args below meth c H locs cells slots Z ls ad ca G A C hL hW hK)

theorem gw_null  (hd : decode μ.2.1 pc = .ok (.aconst_null, 1)) (hn : pc + 1 = n) (k : gk_W n0 nx d μ n L (.null :: st) M np Q) : gk_W n0 nx d μ pc L (st) M np Q := by
  subst hn
  exact fun p l e R s m args below meth c H locs cells slots Z ls ad ca G A C hL hW hK => lv_null C.1 C.2.1 hd (k p l e R s m args below meth c H locs cells slots Z ls ad ca G A C hL hW hK)

theorem gw_iadd {x y : Int32} (hd : decode μ.2.1 pc = .ok (.iadd, 1)) (hn : pc + 1 = n) (k : gk_W n0 nx d μ n L (.int (x + y) :: st) M np Q) : gk_W n0 nx d μ pc L (.int y :: .int x :: st) M np Q := by
  subst hn
  exact fun p l e R s m args below meth c H locs cells slots Z ls ad ca G A C hL hW hK => lv_iadd C.1 C.2.1 hd (k p l e R s m args below meth c H locs cells slots Z ls ad ca G A C hL hW hK)

theorem gw_ic_ge {x y : Int32} {off : Int} (tgt : Nat) (hd : decode μ.2.1 pc = .ok (.if_icmp .ge off, 3)) (ht : (pc : Int) + off = (tgt : Int)) (hn : pc + 3 = n) (kt : y ≤ x → gk_W n0 nx d μ tgt L st M np Q) (kf : ¬ y ≤ x → gk_W n0 nx d μ n L st M np Q) : gk_W n0 nx d μ pc L (.int y :: .int x :: st) M np Q := by
  subst hn
  exact fun p l e R s m args below meth c H locs cells slots Z ls ad ca G A C hL hW hK => lv_icmp_ge (tgt := tgt) C.1 C.2.1 hd ht (fun h => (kt h p l e R s m args below meth c H locs cells slots Z ls ad ca G A C hL hW hK)) (fun h => (kf h p l e R s m args below meth c H locs cells slots Z ls ad ca G A C hL hW hK))

theorem gw_ic_gt {x y : Int32} {off : Int} (tgt : Nat) (hd : decode μ.2.1 pc = .ok (.if_icmp .gt off, 3)) (ht : (pc : Int) + off = (tgt : Int)) (hn : pc + 3 = n) (kt : y < x → gk_W n0 nx d μ tgt L st M np Q) (kf : ¬ y < x → gk_W n0 nx d μ n L st M np Q) : gk_W n0 nx d μ pc L (.int y :: .int x :: st) M np Q := by
  subst hn
  exact fun p l e R s m args below meth c H locs cells slots Z ls ad ca G A C hL hW hK => lv_icmp_gt (tgt := tgt) C.1 C.2.1 hd ht (fun h => (kt h p l e R s m args below meth c H locs cells slots Z ls ad ca G A C hL hW hK)) (fun h => (kf h p l e R s m args below meth c H locs cells slots Z ls ad ca G A C hL hW hK))

theorem gw_goto {off : Int} (tgt : Nat) (hd : decode μ.2.1 pc = .ok (.goto off, 3)) (ht : (pc : Int) + off = (tgt : Int)) (k : gk_W n0 nx d μ tgt L st M np Q) : gk_W n0 nx d μ pc L st M np Q :=
  fun p l e R s m args below meth c H locs cells slots Z ls ad ca G A C hL hW hK => lv_goto (tgt := tgt) C.1 C.2.1 hd ht (k p l e R s m args below meth c H locs cells slots Z ls ad ca G A C hL hW hK)

theorem gw_al0 {x : Nat} (hd : decode μ.2.1 pc = .ok (.aload_n 0, 1)) (hn : pc + 1 = n) (k : gk_W n0 nx d μ n (some (.ref x) :: L) (.ref x :: st) M np Q) : gk_W n0 nx d μ pc (some (.ref x) :: L) st M np Q := by
  subst hn
  exact fun p l e R s m args below meth c H locs cells slots Z ls ad ca G A C hL hW hK => lv_aload_n C.1 C.2.1 hd rfl (hL.at (i := 0) rfl) (k p l e R s m args below meth c H locs cells slots Z ls ad ca G A C hL hW hK)

theorem gw_al1 {a0 : Option Value} {x : Nat} (hd : decode μ.2.1 pc = .ok (.aload_n 1, 1)) (hn : pc + 1 = n) (k : gk_W n0 nx d μ n (a0 :: some (.ref x) :: L) (.ref x :: st) M np Q) : gk_W n0 nx d μ pc (a0 :: some (.ref x) :: L) st M np Q := by
  subst hn
  exact fun p l e R s m args below meth c H locs cells slots Z ls ad ca G A C hL hW hK => lv_aload_n C.1 C.2.1 hd rfl (hL.at (i := 1) rfl) (k p l e R s m args below meth c H locs cells slots Z ls ad ca G A C hL hW hK)

theorem gw_il1 {a0 : Option Value} {x : Int32} (hd : decode μ.2.1 pc = .ok (.iload_n 1, 1)) (hn : pc + 1 = n) (k : gk_W n0 nx d μ n (a0 :: some (.int x) :: L) (.int x :: st) M np Q) : gk_W n0 nx d μ pc (a0 :: some (.int x) :: L) st M np Q := by
  subst hn
  exact fun p l e R s m args below meth c H locs cells slots Z ls ad ca G A C hL hW hK => lv_iload_n C.1 C.2.1 hd rfl (hL.at (i := 1) rfl) (k p l e R s m args below meth c H locs cells slots Z ls ad ca G A C hL hW hK)

theorem gw_il2 {a0 a1 : Option Value} {x : Int32} (hd : decode μ.2.1 pc = .ok (.iload_n 2, 1)) (hn : pc + 1 = n) (k : gk_W n0 nx d μ n (a0 :: a1 :: some (.int x) :: L) (.int x :: st) M np Q) : gk_W n0 nx d μ pc (a0 :: a1 :: some (.int x) :: L) st M np Q := by
  subst hn
  exact fun p l e R s m args below meth c H locs cells slots Z ls ad ca G A C hL hW hK => lv_iload_n C.1 C.2.1 hd rfl (hL.at (i := 2) rfl) (k p l e R s m args below meth c H locs cells slots Z ls ad ca G A C hL hW hK)

theorem gw_is1 {a0 : Option Value} {b : Option Value} {x : Int32} (hd : decode μ.2.1 pc = .ok (.istore_n 1, 1)) (hn : pc + 1 = n) (hx : dk_nl a0 = true) (hi : 1 < μ.2.2.1) (k : gk_W n0 nx d μ n (a0 :: some (.int x) :: L) st M np Q) : gk_W n0 nx d μ pc (a0 :: b :: L) (.int x :: st) M np Q := by
  subst hn
  exact fun p l e R s m args below meth c H locs cells slots Z ls ad ca G A C hL hW hK => lv_istore_n C.1 C.2.1 hd rfl hL hi rfl (fun ls' h' => (k p l e R s m args below meth c H locs cells slots Z ls' ad ca G A C (dk_Lv.set (v := .int x) (L := a0 :: b :: L) (i := 1) (by simp) (fun a _ h => by cases h; exact hx) h') hW hK))

theorem gw_is2 {a0 a1 : Option Value} {b : Option Value} {x : Int32} (hd : decode μ.2.1 pc = .ok (.istore_n 2, 1)) (hn : pc + 1 = n) (hx : dk_nl a1 = true) (hi : 2 < μ.2.2.1) (k : gk_W n0 nx d μ n (a0 :: a1 :: some (.int x) :: L) st M np Q) : gk_W n0 nx d μ pc (a0 :: a1 :: b :: L) (.int x :: st) M np Q := by
  subst hn
  exact fun p l e R s m args below meth c H locs cells slots Z ls ad ca G A C hL hW hK => lv_istore_n C.1 C.2.1 hd rfl hL hi rfl (fun ls' h' => (k p l e R s m args below meth c H locs cells slots Z ls' ad ca G A C (dk_Lv.set (v := .int x) (L := a0 :: a1 :: b :: L) (i := 2) (by simp) (fun a _ h => by cases h; exact hx) h') hW hK))

theorem gw_inc1 {a0 : Option Value} {x : Int32} {z : Int} (v : Int32) (hd : decode μ.2.1 pc = .ok (.iinc 1 z, 3)) (hv : Int32.ofInt z = v) (hn : pc + 3 = n) (hx : dk_nl a0 = true) (hi : 1 < μ.2.2.1) (k : gk_W n0 nx d μ n (a0 :: some (.int (x + v)) :: L) st M np Q) : gk_W n0 nx d μ pc (a0 :: some (.int x) :: L) st M np Q := by
  subst hn
  intro p l e R s m args below meth c H locs cells slots Z ls ad ca G A C hL hW hK
  obtain ⟨q, hq⟩ := List.getElem?_of_mem ((dk_prs_mem (ad := ad) (a0 :: some (.int x) :: L) 0 1 (.int x)).mpr ⟨1, .int x, rfl, rfl, rfl⟩)
  exact lv_iinc (v := x + v) C.1 C.2.1 hd hL hq (by rw [hv]) hi rfl (fun ls' h' => (k p l e R s m args below meth c H locs cells slots Z ls' ad ca G A C (dk_Lv.set (v := .int (x + v)) (L := a0 :: some (.int x) :: L) (i := 1) (by simp) (fun a _ h => by cases h; exact hx) h') hW hK))

theorem gw_inc2 {a0 a1 : Option Value} {x : Int32} {z : Int} (v : Int32) (hd : decode μ.2.1 pc = .ok (.iinc 2 z, 3)) (hv : Int32.ofInt z = v) (hn : pc + 3 = n) (hx : dk_nl a1 = true) (hi : 2 < μ.2.2.1) (k : gk_W n0 nx d μ n (a0 :: a1 :: some (.int (x + v)) :: L) st M np Q) : gk_W n0 nx d μ pc (a0 :: a1 :: some (.int x) :: L) st M np Q := by
  subst hn
  intro p l e R s m args below meth c H locs cells slots Z ls ad ca G A C hL hW hK
  obtain ⟨q, hq⟩ := List.getElem?_of_mem ((dk_prs_mem (ad := ad) (a0 :: a1 :: some (.int x) :: L) 0 2 (.int x)).mpr ⟨2, .int x, rfl, rfl, rfl⟩)
  exact lv_iinc (v := x + v) C.1 C.2.1 hd hL hq (by rw [hv]) hi rfl (fun ls' h' => (k p l e R s m args below meth c H locs cells slots Z ls' ad ca G A C (dk_Lv.set (v := .int (x + v)) (L := a0 :: a1 :: some (.int x) :: L) (i := 2) (by simp) (fun a _ h => by cases h; exact hx) h') hW hK))

theorem gw_dup {v : Value} (hv : v.category = 1) (hd : decode μ.2.1 pc = .ok (.dup, 1)) (hn : pc + 1 = n) (k : gk_W n0 nx d μ n L (v :: v :: st) M np Q) : gk_W n0 nx d μ pc L (v :: st) M np Q := by
  subst hn
  exact fun p l e R s m args below meth c H locs cells slots Z ls ad ca G A C hL hW hK => lv_dup C.1 C.2.1 hd ((dk_rv_cat ad v).trans hv) (k p l e R s m args below meth c H locs cells slots Z ls ad ca G A C hL hW hK)

theorem gw_il3 {a0 a1 a2 : Option Value} {x : Int32} (hd : decode μ.2.1 pc = .ok (.iload_n 3, 1)) (hn : pc + 1 = n) (k : gk_W n0 nx d μ n (a0 :: a1 :: a2 :: some (.int x) :: L) (.int x :: st) M np Q) : gk_W n0 nx d μ pc (a0 :: a1 :: a2 :: some (.int x) :: L) st M np Q := by
  subst hn
  exact fun p l e R s m args below meth c H locs cells slots Z ls ad ca G A C hL hW hK => lv_iload_n C.1 C.2.1 hd rfl (hL.at (i := 3) rfl) (k p l e R s m args below meth c H locs cells slots Z ls ad ca G A C hL hW hK)

theorem gw_is3 {a0 a1 a2 : Option Value} {b : Option Value} {x : Int32} (hd : decode μ.2.1 pc = .ok (.istore_n 3, 1)) (hn : pc + 1 = n) (hx : dk_nl a2 = true) (hi : 3 < μ.2.2.1) (k : gk_W n0 nx d μ n (a0 :: a1 :: a2 :: some (.int x) :: L) st M np Q) : gk_W n0 nx d μ pc (a0 :: a1 :: a2 :: b :: L) (.int x :: st) M np Q := by
  subst hn
  exact fun p l e R s m args below meth c H locs cells slots Z ls ad ca G A C hL hW hK => lv_istore_n C.1 C.2.1 hd rfl hL hi rfl (fun ls' h' => (k p l e R s m args below meth c H locs cells slots Z ls' ad ca G A C (dk_Lv.set (v := .int x) (L := a0 :: a1 :: a2 :: b :: L) (i := 3) (by simp) (fun a _ h => by cases h; exact hx) h') hW hK))

theorem gw_getV {k : Nat} {fin : Bool} {ty : FieldType} (v : Value) (hf : dk_F μ.1.cls idx ci k fin ty) (hs : dk_is p' ci) (hp : p' < np) (hv : ∀ ad, gk_fv ad M p' ci k = dk_rv ad v) (hd : decode μ.2.1 pc = .ok (.getfield idx, 3)) (hn : pc + 3 = n) (kk : gk_W n0 nx d μ n L (v :: st) M np Q) : gk_W n0 nx d μ pc L (.ref p' :: st) M np Q := by
  subst hn
  intro p l e R s m args below meth c H locs cells slots Z ls ad ca G A C hL hW hK
  obtain ⟨CN, T, N, ty0, ref, ⟨h1, h2, h3, h4, h5, h6⟩, hk, -, -, hl, hsm⟩ := hf
  obtain ⟨hx, hb, hml, hown, hts, -⟩ := id C
  exact va_get hx hb hts h4 hown hW.1 hW.2.1 p' (by rw [gk_ws_at hp, gk_cell_o hs.1 h3]) h1 k hk (hts _ hl) (dk_same hts hsm) (by rw [gk_fs_at (h2 ▸ hk), hv ad]) hd (kk p l e R s m args below meth c H locs cells slots Z ls ad ca G A C hL hW hK)
theorem gw_putV {k : Nat} {fin : Bool} {ty : FieldType} (v : Value) (x : Int32) (hf : dk_F μ.1.cls idx ci k fin ty) (hF : fin = true → μ.1.name = "<init>" ∧ ∀ C T N ty0, dk_CL ci C T N ty0 → (T k).1 = μ.1.cls) (hs : dk_is p' ci) (hp : p' < np) (hv : ∀ ad, gk_fv ad (dk_put M p' k x) p' ci k = dk_rv ad v) (hnr : ∀ ad, narrow ty (dk_rv ad v) = dk_rv ad v) (hfit : ∀ ad, fits ty (dk_rv ad v) = true) (hd : decode μ.2.1 pc = .ok (.putfield idx, 3)) (hn : pc + 3 = n) (kk : gk_W n0 nx d μ n L st (dk_put M p' k x) np Q) : gk_W n0 nx d μ pc L (v :: .ref p' :: st) M np Q := by
  subst hn
  intro p l e R s m args below meth c H locs cells slots Z ls ad ca G A C hL hW hK
  obtain ⟨CN, T, N, ty0, ref, hCL, hk, hfin, hty, hl, hsm⟩ := hf
  obtain ⟨h1, h2, h3, h4, h5, h6⟩ := id hCL
  obtain ⟨hx, hb, hml, hown, hts, -, -, -, -, hnm, -⟩ := id C
  obtain ⟨wK, wP, wD, wS, wI⟩ := hW
  have he : (gk_ws ad ca M np).set p' (ad p', .inr (ci, (gk_fs ad M p' ci).set k (dk_rv ad v))) = gk_ws ad ca (dk_put M p' k x) np := by
    refine gk_ws_set hp ?_ (fun q hq => gk_cell_congr (dk_put_ne hq) rfl)
    rw [gk_cell_o hs.1 h3, ← hv ad, gk_fs_set (h2 ▸ hk) (fun j _ hj => gk_fv_ne hj)]
  cases fin with
  | false =>
    refine va_put hx hb hts h4 ty0 h5 h6 hown wK wP wD wS p' (by rw [gk_ws_at hp, gk_cell_o hs.1 h3]) h1 k hk (hts _ hl) (dk_same hts hsm) hfin (by rw [h5 k hk, hty]) (hnr ad) (hfit ad) (by rw [gk_fs_len, ← h2]; exact hk) hd (fun H1 locs1 g1 g2 g3 => ?_)
    rw [he] at g1 g2
    exact kk p l e R s m args below meth c H1 locs1 cells slots Z ls ad ca G A C hL ⟨wK, g1, g2, g3, wI.put hp⟩ hK
  | true =>
    obtain ⟨f1, f2⟩ := hF rfl
    refine va_putF hx hb hts h4 ty0 h5 h6 hown wK wP wD wS p' (by rw [gk_ws_at hp, gk_cell_o hs.1 h3]) h1 k hk (hts _ hl) (dk_same hts hsm) hfin (hnm.trans f1) (f2 _ _ _ _ hCL) (by rw [h5 k hk, hty]) (hnr ad) (hfit ad) (by rw [gk_fs_len, ← h2]; exact hk) hd (fun H1 locs1 g1 g2 g3 => ?_)
    rw [he] at g1 g2
    exact kk p l e R s m args below meth c H1 locs1 cells slots Z ls ad ca G A C hL ⟨wK, g1, g2, g3, wI.put hp⟩ hK
theorem gw_iast {i x : Int32} (hs : dk_ar p' 20 N) (hp : p' < np) (hin : vp_in i N) (hd : decode μ.2.1 pc = .ok (.iastore, 1)) (hn : pc + 1 = n) (kk : gk_W n0 nx d μ n L st (dk_put M p' i.toNatClampNeg x) np Q) : gk_W n0 nx d μ pc L (.int x :: .int i :: .ref p' :: st) M np Q := by
  subst hn
  intro p l e R s m args below meth c H locs cells slots Z ls ad ca G A C hL hW hK
  obtain ⟨wK, wP, wD, wS, wI⟩ := hW
  refine va_iast C.1 C.2.1 wK wP wD wS p' 0 (by rw [gk_ws_at hp, gk_cell_i hs.1 (by decide) (by decide)]) rfl (by rw [hs.2.2]; exact hin) hd (fun H1 locs1 g1 g2 g3 => ?_)
  rw [gk_ws_set (M' := dk_put M p' i.toNatClampNeg x) hp (by rw [gk_cell_i hs.1 (by decide) (by decide), dk_put_self]) (fun q hq => gk_cell_congr (dk_put_ne hq) rfl)] at g1 g2
  exact kk p l e R s m args below meth c H1 locs1 cells slots Z ls ad ca G A C hL ⟨wK, g1, g2, g3, wI.put hp⟩ hK
theorem gw_new (hcl : dk_CL ci C T N ty0) (hsh : dk_sh np = ci) (hx9 : np < nx) (hy : ∀ k, k < N → defaultValue (ty0 k) = if dk_ft ci k < 2 then .int 0 else .null) (w1 : Cond.classLink μ.1.cls idx C ∈ dk_T) (w2 : Cond.instantiable C N ∈ dk_T) (w3 : Cond.initialized C ∈ dk_T) (hd : decode μ.2.1 pc = .ok (.new idx, 3)) (hn : pc + 3 = n) (kk : gk_W n0 nx d μ n L (.ref np :: st) M (np + 1) Q) : gk_W n0 nx d μ pc L st M np Q := by
  subst hn
  intro p l e R s m args below meth c H locs cells slots Z ls ad ca G A C hL hW hK
  refine gk_size hW (fun hsz => ?_)
  obtain ⟨h1, h2, h3, h4, h5, h6⟩ := id hcl
  obtain ⟨hx, hb, hml, hown, hts, hr1, hr2, hr3, hr4, hnm, h120⟩ := id C
  obtain ⟨wK, wP, wD, wS, i1, i3, i4, i5, i6, i7, i8, i9, iA⟩ := id hW
  have hz : gk_z np = N := by unfold gk_z; rw [hsh, if_pos h3, ← h2]
  have hsl : gk_sl (np + 1) = gk_sl np + N := by rw [gk_sl, hz]
  have hle := gk_sl_le (show np + 1 ≤ nx by omega)
  have hle0 := gk_sl_le i3
  have hKn := wK.1 ci _ h1
  have hadn : ad np = H.size := by rw [i1 np (by omega), hsz]
  refine W.newcK hx hb hown (hts _ w1) (hts _ w2) (hts _ w3) rfl hd (by omega) (by omega) hKn.2.1 rfl fun H1 kC hkC e1 z1 o1 => ?_
  have hnew : va_at G vwCl (ad np, gk_cell ad ca M np) H1 := by
    rw [gk_cell_o hsh h3, hadn]
    refine ⟨_, h1, (u_born ty0 hts h4 hKn hkC e1 h5).to (fun j hj => ?_)⟩
    have hj2 : j < dk_fn ci := h2 ▸ hj
    rw [hy j hj]
    have e9 : M.1 np j = gk_M0.1 np j := by rw [(i6 np (Nat.le_refl _)).1]
    by_cases hft : dk_ft ci j < 2
    · rw [if_pos hft]
      have e8 : M.1 np j = 0 := by
        rw [e9]
        show (if (dk_sh np < 20 ∧ ¬ dk_ft (dk_sh np) j < 2) ∨ 24 ≤ dk_sh np then (-1 : Int32) else 0) = 0
        rw [hsh, if_neg (by omega)]
      simp [vp_V, gk_fs_at hj2, gk_fv, hft, e8]
    · rw [if_neg hft]
      have e8 : M.1 np j = -1 := by
        rw [e9]
        show (if (dk_sh np < 20 ∧ ¬ dk_ft (dk_sh np) j < 2) ∨ 24 ≤ dk_sh np then (-1 : Int32) else 0) = -1
        rw [hsh, if_pos (Or.inl ⟨h3, hft⟩)]
      simp [vp_V, gk_fs_at hj2, gk_fv, hft, dk_ref, e8, va_rf]
  have r := kk p l e R s m args below meth c H1 locs (cells + 1) (slots + gk_z np) Z ls ad ca G A C hL (gk_grow hW (by omega) hsz z1 o1 hnew) hK
  rw [hz] at r
  rw [← hadn]
  exact r
end GKW
