/-! ===== the world of places: every object and array that the law makes has a number, by the order of making ===== -/
abbrev dk_Mem : Type := (Nat → Nat → Int32) × (Nat → Nat → Int64)
/-- a method: its name, its bytes, its locals, what it returns -/
abbrev dk_Mt : Type := MethodName × ByteArray × Nat × Option FieldType
/-- what stands at a place: 0 .. 12 an object of that class, 20 int[], 21 byte[], 22 boolean[], 23 long[], 24 Moment[], 25 Piece[], 26 int[][] -/
def dk_shL : List Nat := [11, 25, 5, 20, 0, 20, 2, 20, 1, 20, 3, 20, 9, 20, 10, 20, 20, 20, 20, 20, 20, 20, 4, 20, 8, 20, 20, 20, 20, 20, 20, 20, 7, 20, 20, 20, 20, 10, 20, 20, 20, 20, 20, 20, 20, 4, 20, 8, 20, 20, 20, 20, 20, 20, 20, 7, 20, 20, 20, 20, 6, 24, 26, 20, 20, 20, 20, 20, 20, 4, 20, 4, 20, 4, 20, 4, 20, 4, 20, 4, 20, 21, 8, 20, 20, 20, 20, 20, 20, 20, 26, 20, 20, 20, 20, 20, 20, 26, 20, 20, 20, 20, 20, 20, 12, 20, 20, 20, 20, 22, 20, 20, 20, 20, 20, 23, 20, 20, 20, 20]
def dk_lenL : List Nat := [0, 6, 0, 30, 0, 30, 0, 30, 0, 30, 0, 30, 0, 30, 0, 6, 6, 6, 6, 16, 6, 6, 0, 6, 0, 8, 8, 9, 200, 5, 201, 201, 0, 6, 6, 6, 6, 0, 6, 6, 6, 6, 16, 6, 6, 0, 6, 0, 8, 8, 9, 200, 5, 201, 201, 0, 6, 6, 6, 6, 0, 5, 5, 4, 4, 4, 4, 4, 5, 0, 6, 0, 6, 0, 6, 0, 6, 0, 6, 0, 6, 200, 0, 8, 8, 9, 200, 5, 201, 201, 4, 3, 3, 3, 3, 4, 4, 4, 40, 40, 40, 40, 4, 4, 0, 621, 621, 621, 200, 100, 2484, 621, 12, 4, 4, 160, 4, 4, 4, 30]
def dk_rfL : List (List (Option Nat)) := [[some 1, some 14, some 37, none, some 60, some 79, some 81, none, none, some 90, none, some 95, some 96, some 97, some 102, some 103, none], [some 2, some 4, some 6, some 8, some 10, some 12], [some 3, none, none, none, none], [], [some 5, none, none, none, none], [], [some 7, none, none, none, none], [], [some 9, none, none, none, none], [], [some 11, none, none, none, none], [], [some 13, none, none, none, none], [], [some 1, none, some 15, some 16, some 17, some 18, some 19, some 20, some 21, some 22, none, none, none, none, some 32], [], [], [], [], [], [], [], [none, none, some 23], [], [none, some 25, some 26, some 27, some 28, none, some 29, some 30, some 31, none], [], [], [], [], [], [], [], [none, some 33, some 34, some 35, some 36, none, none, none, none, none], [], [], [], [], [some 1, none, some 38, some 39, some 40, some 41, some 42, some 43, some 44, some 45, none, none, none, none, some 55], [], [], [], [], [], [], [], [none, none, some 46], [], [none, some 48, some 49, some 50, some 51, none, some 52, some 53, some 54, none], [], [], [], [], [], [], [], [none, some 56, some 57, some 58, some 59, none, none, none, none, none], [], [], [], [], [some 14, some 61, some 62, some 68], [some 69, some 71, some 73, some 75, some 77], [some 63, some 64, some 65, some 66, some 67], [], [], [], [], [], [], [none, none, some 70], [], [none, none, some 72], [], [none, none, some 74], [], [none, none, some 76], [], [none, none, some 78], [], [none, none, some 80], [], [], [none, some 83, some 84, some 85, some 86, none, some 87, some 88, some 89, none], [], [], [], [], [], [], [], [some 91, some 92, some 93, some 94], [], [], [], [], [], [], [some 98, some 99, some 100, some 101], [], [], [], [], [], [], [some 105, some 106, some 107, none, some 108, none, none, none, none, none, none, none, none, some 109, none, none, none, none, some 110, some 111, none, some 112, some 113, some 114, some 115, some 116, some 117, some 118, some 119, none, none], [], [], [], [], [], [], [], [], [], [], [], [], [], [], []]
/-- the fields of a class: 0 int, 1 boolean, 2 a reference that stays, 3 one that moves (kept as the number of its place, -1 for null) -/
def dk_ftL : List (List Nat) := [[2, 0, 1, 0, 0], [2, 0, 1, 0, 0], [2, 0, 1, 0, 0], [2, 0, 1, 0, 0], [0, 0, 2], [2, 0, 1, 0, 0], [2, 2, 2, 2], [0, 2, 2, 2, 2, 0, 0, 0, 0, 0], [0, 2, 2, 2, 2, 0, 2, 2, 2, 0], [2, 0, 1, 0, 0], [2, 0, 2, 2, 2, 2, 2, 2, 2, 2, 0, 0, 0, 3, 2], [2, 2, 2, 1, 2, 2, 2, 0, 3, 2, 0, 2, 2, 2, 2, 2, 3], [2, 2, 2, 1, 2, 0, 0, 0, 0, 0, 1, 0, 0, 2, 0, 0, 0, 0, 2, 2, 0, 2, 2, 2, 2, 2, 2, 2, 2, 0, 1]]
def dk_sh (p : Nat) : Nat := dk_shL.getD p 99
def dk_len (p : Nat) : Nat := dk_lenL.getD p 0
def dk_rf (p k : Nat) : Option Nat := (dk_rfL.getD p []).getD k none
def dk_ft (c k : Nat) : Nat := (dk_ftL.getD c []).getD k 0
def dk_fn (c : Nat) : Nat := (dk_ftL.getD c []).length
def dk_ref (M : dk_Mem) (p k : Nat) : Option Nat := if M.1 p k < 0 then none else some (M.1 p k).toNatClampNeg
def dk_fv (ad : Nat → Nat) (M : dk_Mem) (p c k : Nat) : Value := if dk_ft c k = 2 then va_rf ((dk_rf p k).map ad) else if dk_ft c k = 3 then va_rf ((dk_ref M p k).map ad) else .int (M.1 p k)
def dk_fs (ad : Nat → Nat) (M : dk_Mem) (p c : Nat) : List Value := (List.range (dk_fn c)).map (dk_fv ad M p c)
def dk_cell (ad : Nat → Nat) (ca : Nat → ClassId) (M : dk_Mem) (p : Nat) : va_E :=
  if dk_sh p < 20 then .inr (dk_sh p, dk_fs ad M p (dk_sh p))
  else if dk_sh p < 23 then .inl (ca (dk_sh p), dk_len p, .inl (M.1 p))
  else if dk_sh p = 23 then .inl (ca 23, dk_len p, .inr (.inl (M.2 p)))
  else .inl (ca (dk_sh p), dk_len p, .inr (.inr (.inr (.inr (fun i => (dk_rf p i).map ad)))))
def dk_ws (ad : Nat → Nat) (ca : Nat → ClassId) (M : dk_Mem) : va_W := (List.range 120).map (fun p => (ad p, dk_cell ad ca M p))
def dk_tys (ca : Nat → ClassId) : List (ClassId × FieldType) := [(ca 20, .int), (ca 21, .byte), (ca 22, .boolean), (ca 23, .long), (ca 24, .object "DominoKin$Moment"), (ca 25, .object "DominoKin$Piece"), (ca 26, .array .int)]
def dk_rv (ad : Nat → Nat) (v : Value) : Value := match v with
  | .ref p => .ref (ad p)
  | w => w
/-- a write of an int, of a long -/
def dk_put (M : dk_Mem) (p k : Nat) (x : Int32) : dk_Mem := (fun q j => if q = p ∧ j = k then x else M.1 q j, M.2)
def dk_putL (M : dk_Mem) (p k : Nat) (x : Int64) : dk_Mem := (M.1, fun q j => if q = p ∧ j = k then x else M.2 q j)
/-- a whole row written -/
def dk_row (M : dk_Mem) (p : Nat) (f : Nat → Int32) : dk_Mem := (fun q j => if q = p then f j else M.1 q j, M.2)

def dk_linL : List Int32 := [1, 3, 5, 13, 17, 49]
def dk_namL : List Int32 := [112, 105, 101, 99, 101, 0, 0, 97, 117, 110, 116, 0, 0, 0, 102, 97, 116, 104, 101, 114, 0, 101, 108, 100, 101, 115, 116, 0, 103, 105, 114, 108, 0, 0, 0, 115, 97, 105, 108, 111, 114, 0, 115, 97, 121, 0, 0, 0, 0, 115, 116, 97, 110, 100, 0, 0, 104, 111, 108, 100, 0, 0, 0, 121, 101, 97, 114, 0, 0, 0, 108, 101, 97, 110, 0, 0, 0, 103, 97, 112, 0, 0, 0, 0, 119, 111, 114, 100, 0, 0, 0, 110, 117, 109, 98, 101, 114, 0, 105, 102, 0, 0, 0, 0, 0, 111, 114, 0, 0, 0, 0, 0, 97, 110, 100, 0, 0, 0, 0, 110, 111, 116, 0, 0, 0, 0]
def dk_bytL : List Int32 := [112, 105, 101, 99, 101, 32, 97, 117, 110, 116, 32, 102, 97, 116, 104, 101, 114, 32, 101, 108, 100, 101, 115, 116, 32, 103, 105, 114, 108, 32, 115, 97, 105, 108, 111, 114, 32, 105, 102, 32, 115, 97, 121, 32, 115, 116, 97, 110, 100, 32, 104, 111, 108, 100, 32, 111, 114, 32, 97, 110, 100, 32, 110, 111, 116, 32, 121, 101, 97, 114, 32, 108, 101, 97, 110, 32, 103, 97, 112, 32, 119, 111, 114, 100, 32, 110, 117, 109, 98, 101, 114, 32]
def dk_lin (j : Nat) : Int32 := dk_linL.getD j 0
def dk_nam (j : Nat) : Int32 := dk_namL.getD j 0
/-- what the statement gives of the start, told of places that nobody writes: 200 LINEAGE, 201 NAMES, 202 the text, 203 its bytes -/
def dk_St (ad : Nat → Nat) (A : Nat → Prop) (U : State) : Prop :=
  va_Z "DominoKin" "LINEAGE" "[I" (.ref (ad 200)) A U U.heap ∧ va_T .int (ad 200) 6 (fun j => .int (dk_lin j)) A U U.heap ∧ va_Z "DominoKinModel" "NAMES" "[I" (.ref (ad 201)) A U U.heap ∧ va_T .int (ad 201) 126 (fun j => .int (dk_nam j)) A U U.heap ∧ vk_R "DominoKin$RuleBook" 81 "piece aunt father eldest girl sailor if say stand hold or and not year lean gap word number " (ad 202) U ∧ vk_S 1 [92] [dk_bytL] (fun _ => ad 202) (fun _ => ad 203) A U U.heap ∧ va_Z "java/lang/String" "COMPACT_STRINGS" "Z" (.int 1) A U U.heap ∧ va_Zq "jdk/internal/util/Preconditions" "SIOOBE_FORMATTER" "Ljava/util/function/BiFunction;" A U U.heap ∧ va_Nw (.methodLinkNest "DominoKin$Street" 136 ⟨"DominoKin", "isOrIsUnder", "(II)Z"⟩ "DominoKin") U
theorem dk_ws_at {ad : Nat → Nat} {ca : Nat → ClassId} {M : dk_Mem} {p : Nat} (hp : p < 120) : (dk_ws ad ca M)[p]? = some (ad p, dk_cell ad ca M p) := by
  unfold dk_ws
  rw [List.getElem?_map, List.getElem?_range hp]
  rfl
theorem dk_ws_set {ad : Nat → Nat} {ca : Nat → ClassId} {M M' : dk_Mem} {p : Nat} {e : va_E} (hp : p < 120) (he : dk_cell ad ca M' p = e) (ho : ∀ q, q ≠ p → dk_cell ad ca M' q = dk_cell ad ca M q) : (dk_ws ad ca M).set p (ad p, e) = dk_ws ad ca M' := by
  subst he
  apply List.ext_getElem?
  intro k
  by_cases hk : k = p
  · subst hk
    rw [List.getElem?_set_self (by simp [dk_ws]; exact hp), dk_ws_at hp]
  · rw [List.getElem?_set_ne (Ne.symm hk)]
    by_cases hk2 : k < 120
    · rw [dk_ws_at hk2, dk_ws_at hk2, ho k hk]
    · rw [List.getElem?_eq_none (by simp [dk_ws]; omega), List.getElem?_eq_none (by simp [dk_ws]; omega)]
theorem dk_cell_congr {ad : Nat → Nat} {ca : Nat → ClassId} {M M' : dk_Mem} {q : Nat} (h1 : M'.1 q = M.1 q) (h2 : M'.2 q = M.2 q) : dk_cell ad ca M' q = dk_cell ad ca M q := by
  have e : dk_fv ad M' q (dk_sh q) = dk_fv ad M q (dk_sh q) := by
    funext k
    simp only [dk_fv, dk_ref, h1]
  simp only [dk_cell, dk_fs, h1, h2, e]
theorem dk_put_ne {M : dk_Mem} {p k q : Nat} {x : Int32} (h : q ≠ p) : (dk_put M p k x).1 q = M.1 q := by
  funext j
  simp [dk_put, h]
theorem dk_putL_ne {M : dk_Mem} {p k q : Nat} {x : Int64} (h : q ≠ p) : (dk_putL M p k x).2 q = M.2 q := by
  funext j
  simp [dk_putL, h]
theorem dk_row_ne {M : dk_Mem} {p q : Nat} {f : Nat → Int32} (h : q ≠ p) : (dk_row M p f).1 q = M.1 q := by
  funext j
  simp [dk_row, h]
theorem dk_put_self {M : dk_Mem} {p k : Nat} {x : Int32} : (dk_put M p k x).1 p = upd (M.1 p) k x := by
  funext j
  simp [dk_put, upd]
theorem dk_putL_self {M : dk_Mem} {p k : Nat} {x : Int64} : (dk_putL M p k x).2 p = vp_updL (M.2 p) k x := by
  funext j
  simp [dk_putL, vp_updL]
theorem dk_row_self {M : dk_Mem} {p : Nat} {f : Nat → Int32} : (dk_row M p f).1 p = f := by
  funext j
  simp [dk_row]
theorem dk_cell_o {ad : Nat → Nat} {ca : Nat → ClassId} {M : dk_Mem} {p ci : Nat} (h : dk_sh p = ci) (hc : ci < 20) : dk_cell ad ca M p = .inr (ci, dk_fs ad M p ci) := by
  subst h
  simp only [dk_cell, if_pos hc]
theorem dk_cell_i {ad : Nat → Nat} {ca : Nat → ClassId} {M : dk_Mem} {p t : Nat} (h : dk_sh p = t) (h1 : ¬ t < 20) (h2 : t < 23) : dk_cell ad ca M p = .inl (ca t, dk_len p, .inl (M.1 p)) := by
  subst h
  simp only [dk_cell, if_neg h1, if_pos h2]
theorem dk_cell_l {ad : Nat → Nat} {ca : Nat → ClassId} {M : dk_Mem} {p : Nat} (h : dk_sh p = 23) : dk_cell ad ca M p = .inl (ca 23, dk_len p, .inr (.inl (M.2 p))) := by
  simp [dk_cell, h]
theorem dk_cell_q {ad : Nat → Nat} {ca : Nat → ClassId} {M : dk_Mem} {p t : Nat} (h : dk_sh p = t) (h1 : 23 < t) : dk_cell ad ca M p = .inl (ca t, dk_len p, .inr (.inr (.inr (.inr (fun i => (dk_rf p i).map ad))))) := by
  subst h
  simp only [dk_cell, if_neg (show ¬ dk_sh p < 20 by omega), if_neg (show ¬ dk_sh p < 23 by omega), if_neg (show ¬ dk_sh p = 23 by omega)]
theorem dk_fs_at {ad : Nat → Nat} {M : dk_Mem} {p c k : Nat} (hk : k < dk_fn c) : (dk_fs ad M p c)[k]? = some (dk_fv ad M p c k) := by
  unfold dk_fs
  rw [List.getElem?_map, List.getElem?_range hk]
  rfl
theorem dk_fs_len {ad : Nat → Nat} {M : dk_Mem} {p c : Nat} : (dk_fs ad M p c).length = dk_fn c := by simp [dk_fs]
theorem dk_fs_set {ad : Nat → Nat} {M : dk_Mem} {p c k : Nat} {x : Int32} (hk : k < dk_fn c) (hd : ∀ j, j < dk_fn c → j ≠ k → dk_fv ad (dk_put M p k x) p c j = dk_fv ad M p c j) : (dk_fs ad M p c).set k (dk_fv ad (dk_put M p k x) p c k) = dk_fs ad (dk_put M p k x) p c := by
  apply List.ext_getElem?
  intro j
  by_cases hj : j = k
  · subst hj
    rw [List.getElem?_set_self (by rw [dk_fs_len]; exact hk), dk_fs_at hk]
  · rw [List.getElem?_set_ne (Ne.symm hj)]
    by_cases h2 : j < dk_fn c
    · rw [dk_fs_at h2, dk_fs_at h2, hd j h2 hj]
    · rw [List.getElem?_eq_none (by rw [dk_fs_len]; omega), List.getElem?_eq_none (by rw [dk_fs_len]; omega)]
theorem dk_fv_ne {ad : Nat → Nat} {M : dk_Mem} {p c k j : Nat} {x : Int32} (h : j ≠ k) : dk_fv ad (dk_put M p k x) p c j = dk_fv ad M p c j := by
  have e : (dk_put M p k x).1 p j = M.1 p j := by simp [dk_put, h]
  simp only [dk_fv, dk_ref, e]
/-- locals by their places -/
def dk_prs (ad : Nat → Nat) : Nat → List (Option Value) → List (Nat × Value)
  | _, [] => []
  | i, none :: L => dk_prs ad (i + 1) L
  | i, some v :: L => (i, dk_rv ad v) :: dk_prs ad (i + 1) L
theorem dk_prs_mem {ad : Nat → Nat} : ∀ (L : List (Option Value)) (i j : Nat) (w : Value), (j, w) ∈ dk_prs ad i L ↔ ∃ (k : Nat) (v : Value), j = i + k ∧ L[k]? = some (some v) ∧ w = dk_rv ad v
  | [], i, j, w => by simp [dk_prs]
  | none :: L, i, j, w => by
    rw [dk_prs, dk_prs_mem L (i + 1) j w]
    constructor
    · rintro ⟨k, v, h1, h2, h3⟩
      exact ⟨k + 1, v, by omega, by rw [List.getElem?_cons_succ]; exact h2, h3⟩
    · rintro ⟨k, v, h1, h2, h3⟩
      cases k with
      | zero => rw [List.getElem?_cons_zero] at h2; cases h2
      | succ k => exact ⟨k, v, by omega, by rw [List.getElem?_cons_succ] at h2; exact h2, h3⟩
  | some u :: L, i, j, w => by
    rw [dk_prs, List.mem_cons, dk_prs_mem L (i + 1) j w]
    constructor
    · rintro (h | ⟨k, v, h1, h2, h3⟩)
      · cases h
        exact ⟨0, u, by omega, by rw [List.getElem?_cons_zero], rfl⟩
      · exact ⟨k + 1, v, by omega, by rw [List.getElem?_cons_succ]; exact h2, h3⟩
    · rintro ⟨k, v, h1, h2, h3⟩
      cases k with
      | zero =>
        rw [List.getElem?_cons_zero] at h2
        cases h2
        exact Or.inl (by rw [h1, h3]; rfl)
      | succ k => exact Or.inr ⟨k, v, by omega, by rw [List.getElem?_cons_succ] at h2; exact h2, h3⟩
theorem dk_rv_cat (ad : Nat → Nat) (v : Value) : (dk_rv ad v).category = v.category := by cases v <;> rfl
def dk_Lv (ad : Nat → Nat) (L : List (Option Value)) (ls : Array Slot) (nL : Nat) : Prop := lv_has ls nL (dk_prs ad 0 L)
theorem dk_Lv.at {ad : Nat → Nat} {L : List (Option Value)} {ls : Array Slot} {nL i : Nat} {v : Value} (h : dk_Lv ad L ls nL) (hi : L[i]? = some (some v)) : ls[i]? = some (.val (dk_rv ad v)) :=
  h.2.2 (i, dk_rv ad v) ((dk_prs_mem L 0 i _).mpr ⟨i, v, by omega, hi, rfl⟩)
/-- no long before -/
def dk_nl (a : Option Value) : Bool := match a with
  | some (.long _) => false
  | some (.double _) => false
  | _ => true
theorem dk_Lv.set {ad : Nat → Nat} {L : List (Option Value)} {ls' : Array Slot} {nL i : Nat} {v : Value} (hi : i < L.length) (hn : ∀ a, i ≠ 0 → L[i - 1]? = some a → dk_nl a = true)
    (h' : lv_has ls' nL ((i, dk_rv ad v) :: (dk_prs ad 0 L).filter (fun q => !(q.1 == i) && !(q.1 + 1 == i && q.2.category == 2)))) : dk_Lv ad (L.set i (some v)) ls' nL := by
  refine ⟨h'.1, h'.2.1, fun q hq => h'.2.2 q ?_⟩
  obtain ⟨j, w⟩ := q
  obtain ⟨k, u, h1, h2, h3⟩ := (dk_prs_mem _ 0 j w).mp hq
  have hjk : j = k := by omega
  subst hjk
  by_cases hj : j = i
  · subst hj
    rw [List.getElem?_set_self hi] at h2
    cases h2
    rw [h3]
    exact List.mem_cons_self
  · rw [List.getElem?_set_ne (Ne.symm hj)] at h2
    refine List.mem_cons_of_mem _ (List.mem_filter.mpr ⟨(dk_prs_mem L 0 j w).mpr ⟨j, u, by omega, h2, h3⟩, ?_⟩)
    have e1 : (j == i) = false := by simp [hj]
    by_cases e2 : j + 1 = i
    · have hx := hn (some u) (by omega) (by rw [show i - 1 = j by omega]; exact h2)
      have hc : ¬ w.category = 2 := by
        rw [h3, dk_rv_cat]
        cases u <;> first | (cases hx; done) | (intro h; cases h)
      simp [hj, hc]
    · simp [hj, e2]
/-- the words of the class of a place -/
def dk_CL (ci : Nat) (C : String) (T : u_T) (N : Nat) (ty0 : Nat → FieldType) : Prop := vwCl[ci]? = some (C, T, N) ∧ N = dk_fn ci ∧ ci < 20 ∧ (∀ w ∈ u_ws C T N, w ∈ dk_T) ∧ (∀ k, k < N → parseFieldDescriptor (T k).2.2.1 = some (ty0 k)) ∧ (∀ a, a < N → ∀ b, b < N → a ≠ b → (T a).2.1 ≠ (T b).2.1)
/-- a field as the code of a class names it -/
def dk_F (own : String) (idx ci k : Nat) (fin : Bool) (ty : FieldType) : Prop := ∃ (C : String) (T : u_T) (N : Nat) (ty0 : Nat → FieldType) (ref : String), dk_CL ci C T N ty0 ∧ k < N ∧ (T k).2.2.2 = fin ∧ ty0 k = ty ∧ Cond.fieldLink own idx ref (T k).2.1 (T k).2.2.1 ∈ dk_T ∧ (ref = (T k).1 ∨ Cond.sameField ref (T k).1 (T k).2.1 (T k).2.2.1 ∈ dk_T)
/-- an object of class ci stands at p; an array of kind t and length n -/
def dk_is (p ci : Nat) : Prop := dk_sh p = ci ∧ p < 120
def dk_ar (p t n : Nat) : Prop := dk_sh p = t ∧ p < 120 ∧ dk_len p = n
/-- the machine and the words, at a level of d frames -/
def dk_Cx (p : Program) (l : Launch) (e : Env) (R : Room) (s : State) (m : MethodId) (args : Array Value) (c : Code) (μ : dk_Mt) (d cells slots : Nat) : Prop :=
  p.tables.exec = Jvm.exec ∧ c.code = μ.2.1 ∧ c.maxLocals = μ.2.2.1 ∧ s.vm.findClass μ.1.cls = some m.cls ∧ (∀ w ∈ dk_T, w.before args s = true) ∧ d ≤ R.frames ∧ 64 * d ≤ R.locals ∧ cells ≤ R.cells ∧ slots ≤ R.slots
def dk_Wo (ad : Nat → Nat) (ca : Nat → ClassId) (G : va_G) (A : Nat → Prop) (s : State) (H : Heap) (locs : List Loc) (M : dk_Mem) : Prop :=
  va_K G vwCl (dk_tys ca) s ∧ va_P G vwCl (dk_ws ad ca M) H ∧ va_D A (dk_ws ad ca M) ∧ va_S A s.heap H locs ∧ dk_St ad A s
def dk_isRet (μ : dk_Mt) (pc : Nat) (v : Option Value) : Prop := (v = none ∧ decode μ.2.1 pc = .ok (.return_, 1) ∧ μ.2.2.2 = none) ∨ ∃ x : Int32, v = some (.int x) ∧ decode μ.2.1 pc = .ok (.ireturn, 1) ∧ ∃ ty, μ.2.2.2 = some ty ∧ narrow ty (.int x) = .int x
def dk_K (p : Program) (l : Launch) (e : Env) (R : Room) (s : State) (m : MethodId) (args : Array Value) (below : List Frame) (meth : Method) (c : Code) (H : Heap) (locs : List Loc) (cells slots : Nat) (Z : State → Prop) (μ : dk_Mt) (v : Option Value) : Prop :=
  ∀ (pc : Nat) (ls : Array Slot), dk_isRet μ pc v → W p l e R s m args below meth c H locs cells slots Z (F0 m pc ls v.toList)
/-- THE JUDGEMENT: from pc, with these locals, this stack and memory M, method μ comes to its end with Q of its answer and the memory then -/
def dk_W (d : Nat) (μ : dk_Mt) (pc : Nat) (L : List (Option Value)) (st : List Value) (M : dk_Mem) (Q : Option Value → dk_Mem → Prop) : Prop :=
  ∀ (p : Program) (l : Launch) (e : Env) (R : Room) (s : State) (m : MethodId) (args : Array Value) (below : List Frame) (meth : Method) (c : Code) (H : Heap) (locs : List Loc) (cells slots : Nat) (Z : State → Prop) (ls : Array Slot) (ad : Nat → Nat) (ca : Nat → ClassId) (G : va_G) (A : Nat → Prop),
    dk_Cx p l e R s m args c μ d cells slots → dk_Lv ad L ls μ.2.2.1 → dk_Wo ad ca G A s H locs M →
    (∀ (v : Option Value) (M' : dk_Mem) (H' : Heap) (locs' : List Loc), Q v M' → dk_Wo ad ca G A s H' locs' M' → dk_K p l e R s m args below meth c H' locs' cells slots Z μ (v.map (dk_rv ad))) →
    W p l e R s m args below meth c H locs cells slots Z (F0 m pc ls (st.map (dk_rv ad)))
def dk_rm (d : Nat) : Room := { frames := d, cells := 0, slots := 0, locals := 64 * d }
def dk_Qc (ad : Nat → Nat) (ca : Nat → ClassId) (G : va_G) (A : Nat → Prop) (Q : Option Value → dk_Mem → Prop) : Array Value → State → Outcome → State → Prop := fun _ st o t =>
  (∃ (v : Option Value) (M' : dk_Mem), o = .returned (v.map (dk_rv ad)) ∧ Q v M' ∧ va_P G vwCl (dk_ws ad ca M') t.heap ∧ va_D A (dk_ws ad ca M')) ∧ va_F A st t
def dk_Pc (ad : Nat → Nat) (ca : Nat → ClassId) (G : va_G) (A : Nat → Prop) (As : List Value) (M : dk_Mem) : Array Value → State → Prop := va_Pc (As.map (dk_rv ad)) (fun U => va_K G vwCl (dk_tys ca) U ∧ va_P G vwCl (dk_ws ad ca M) U.heap ∧ va_D A (dk_ws ad ca M) ∧ dk_St ad A U)
/-- THE CONTRACT of a method, for any world and any launch -/
def dk_Call (d : Nat) (μ : dk_Mt) (As : List Value) (M : dk_Mem) (Q : Option Value → dk_Mem → Prop) : Prop :=
  ∀ (l : Launch) (ad : Nat → Nat) (ca : Nat → ClassId) (G : va_G) (A : Nat → Prop), Met l μ.1 (.code μ.1 μ.2.1 μ.2.2.1 μ.2.2.2 :: dk_T) (dk_rm d) (dk_Pc ad ca G A As M) (dk_Qc ad ca G A Q) 0 0 A
theorem dk_St.to {ad : Nat → Nat} {A : Nat → Prop} {s U : State} {H : Heap} {locs : List Loc} (h : dk_St ad A s) (hS : va_S A s.heap H locs) (hU : U.heap = H) (hW : s.WarmedH U.vm) : dk_St ad A U := by
  subst hU
  obtain ⟨h1, h2, h3, h4, h5, h6, h7, h8, h9⟩ := h
  exact ⟨(h1.moved hW.alike).kept hS.2.1, (h2.moved hW.alike).kept hS.2.1, (h3.moved hW.alike).kept hS.2.1, (h4.moved hW.alike).kept hS.2.1, h5.warm hW, (h6.moved hW.alike).kept hS.2.1, (h7.moved hW.alike).kept hS.2.1, (h8.moved hW.alike).kept hS.2.1, va_Nw.warmM hW h9⟩
theorem dk_St.calling {ad : Nat → Nat} {A : Nat → Prop} {U : State} (g : JFrame) (mk : MethodId) (a : Array Value) (h : dk_St ad A U) : dk_St ad A (U.calling g mk a) := by
  obtain ⟨h1, h2, h3, h4, h5, h6, h7, h8, h9⟩ := h
  have r : U.vm.Alike (U.calling g mk a).vm := Vm.Alike.refl U.vm
  exact ⟨h1.moved (U := U.calling g mk a) r, h2.moved (U := U.calling g mk a) r, h3.moved (U := U.calling g mk a) r, h4.moved (U := U.calling g mk a) r, vk_R.same (U := U.calling g mk a) rfl h5, h6.moved (U := U.calling g mk a) r, h7.moved (U := U.calling g mk a) r, h8.moved (U := U.calling g mk a) r, va_Nw.same (U := U.calling g mk a) rfl rfl h9⟩
theorem dk_blind {ad : Nat → Nat} {ca : Nat → ClassId} {G : va_G} {A : Nat → Prop} {As : List Value} {M : dk_Mem} : FrameBlind (dk_Pc ad ca G A As M) := by
  rintro a U g mk ⟨h1, h2, h3, h4, h5⟩
  exact ⟨h1, va_K.moved (u := U) (U := U.calling g mk a) (Vm.Alike.refl U.vm) h2, h3, h4, h5.calling g mk a⟩
set_option maxHeartbeats 1000000 in
/-- a contract out of a walk from its entry -/
theorem dk_enter {d : Nat} {μ : dk_Mt} {As : List Value} {M : dk_Mem} {Q : Option Value → dk_Mem → Prop} (L : List (Option Value)) (hy : plainName μ.1.cls = true) (hL : ∀ ad, dk_prs ad 0 L = lv_args 0 (As.map (dk_rv ad))) (hl : ∀ ad, (lg_sl (As.map (dk_rv ad))).length ≤ μ.2.2.1)
    (k : dk_W d μ 0 L [] M Q) : dk_Call d μ As M Q := by
  intro l ad ca G A
  refine Met.ofW (cc := μ.2.1) (maxL := μ.2.2.1) (ret := μ.2.2.2) hy rfl ?_
  intro p e s m args below meth c s₁ B hml hv
  obtain ⟨rfl, hK, hP, hD, hSt⟩ := hv
  have hts := atoms_spec (ws := .code μ.1 μ.2.1 μ.2.2.1 μ.2.2.2 :: dk_T) B.pre
  have hown : s.vm.findClass μ.1.cls = some m.cls := findClass_of_methodNamed B.named
  have hlv := lv_entry (As.map (dk_rv ad)) (n := μ.2.2.1) (hl ad)
  rw [lg_entry_eq]
  generalize (lg_sl (As.map (dk_rv ad)) ++ List.replicate (μ.2.2.1 - (lg_sl (As.map (dk_rv ad))).length) Slot.unset).toArray = ls at hlv ⊢
  have hS : va_S A s.heap s.heap [] := va_S.rf
  refine k p l e (dk_rm d) s m _ below meth c s.heap [] 0 0 _ ls ad ca G A ⟨B.exec, B.bytes, hml, hown, fun w hw => hts w (List.mem_cons_of_mem _ hw), Nat.le_refl _, Nat.le_refl _, Nat.le_refl _, Nat.le_refl _⟩ ?_ ⟨hK, hP, hD, hS, hSt⟩ ?_
  · unfold dk_Lv
    rw [hL ad]
    exact hlv
  · intro v M' H' locs' hq hw pc ls' hr
    obtain ⟨wK, wP, wD, wS, wSt⟩ := hw
    rcases hr with ⟨hv, hd, hrt⟩ | ⟨x, hv, hd, ty, hty, hn⟩
    · rw [hv]
      exact W.vret B.exec B.bytes (B.returns.trans hrt) (fun t ht hW => ⟨⟨v, M', by rw [hv], hq, by rw [ht]; exact wP, wD⟩, wS.F ht⟩) (fun q hq => wS.2.2 q hq) hd (hlocks := B.notSynchronized)
    · rw [hv]
      exact W.zret B.exec B.bytes (B.returns.trans hty) hn (fun t ht hW => ⟨⟨v, M', by rw [hv], hq, by rw [ht]; exact wP, wD⟩, wS.F ht⟩) (fun q hq => wS.2.2 q hq) hd (hlocks := B.notSynchronized)

theorem dk_w_acn : Cond.native arraycopyName ∈ dk_T := in_833
theorem dk_w_acs : Cond.static arraycopyName ∈ dk_T := in_832
theorem dk_w_sys : Cond.initialized "java/lang/System" ∈ dk_T := in_112
theorem dk_nfw : nativeFrameWords "java/lang/System" "arraycopy" 5 + 11 ≤ 50 := by decide +kernel
