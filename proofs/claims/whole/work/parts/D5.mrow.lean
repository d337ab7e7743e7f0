/-! ===== multianewarray of two dimensions, ints: a row over the machine itself ===== -/
section
variable {p : Program} {l : Launch} {e : Env} {R : Room} {s : State} {m : MethodId} {args : Array Value} {below : List Frame} {meth : Method} {c : Code} {T U : State} {locs : List Loc} {cells slots : Nat} {cA cC : ClassId} {a b : Nat}
def mn_f (h j : Nat) : Nat → Value := fun i => if i < j then .ref (h + 1 + i) else .null
theorem mn_f_s (h j : Nat) : updV (mn_f h j) j (.ref (h + 1 + j)) = mn_f h (j + 1) := by
  funext i
  unfold updV mn_f
  by_cases e1 : i = j
  · subst e1; rw [if_pos rfl, if_pos (by omega)]
  · rw [if_neg e1]
    by_cases e2 : i < j
    · rw [if_pos e2, if_pos (by omega)]
    · rw [if_neg e2, if_neg (by omega)]
def mn_s (V : State) (c1 c2 : ClassId) (n k : Nat) : Nat → State
  | 0 => V.pushCell (arrV c1 n (mn_f V.heap.size 0))
  | j + 1 => ((mn_s V c1 c2 n k j).pushCell (arrV c2 k (fun _ => .int 0))).setCell V.heap.size (arrV c1 n (mn_f V.heap.size (j + 1)))
theorem mn_top (f : JFrame) : ∀ j, mn_s (U.setTop f) cA cC a b j = (mn_s U cA cC a b j).setTop f
  | 0 => by rw [mn_s, mn_s, State.heap_setTop]; rfl
  | j + 1 => by rw [mn_s, mn_s, State.heap_setTop, mn_top f j]; rfl
theorem mn_facts : ∀ j, (mn_s U cA cC a b j).heap.size = U.heap.size + 1 + j ∧ (mn_s U cA cC a b j).heap[U.heap.size]? = some (arrV cA a (mn_f U.heap.size j)) ∧ (mn_s U cA cC a b j).vm = U.vm ∧ (mn_s U cA cC a b j).slotsUsed = U.slotsUsed + a + j * b
  | 0 => by
    rw [mn_s]
    refine ⟨size_pushCell _ _, ?_, rfl, ?_⟩
    · show (U.heap.push _)[U.heap.size]? = _
      simp
    · show U.slotsUsed + (arrV cA a _).slots.size = _
      rw [arrV_size]; omega
  | j + 1 => by
    obtain ⟨h1, h2, h3, h4⟩ := mn_facts j
    rw [mn_s]
    refine ⟨?_, ?_, ?_, ?_⟩
    · rw [size_setCell, size_pushCell, h1]; omega
    · exact heapAt_setCell_self _ (show U.heap.size < ((mn_s U cA cC a b j).pushCell _).heap.size by rw [size_pushCell, h1]; omega)
    · exact h3
    · show (mn_s U cA cC a b j).slotsUsed + (arrV cC b _).slots.size = _
      rw [h4, arrV_size, Nat.succ_mul]; omega
theorem mn_old {q : Nat} (hq : q < U.heap.size) : ∀ j, (mn_s U cA cC a b j).heap[q]? = U.heap[q]?
  | 0 => by
    rw [mn_s]
    show (U.heap.push _)[q]? = _
    rw [Array.getElem?_push, if_neg (by omega)]
  | j + 1 => by
    obtain ⟨h1, -, -, -⟩ := mn_facts (U := U) (cA := cA) (cC := cC) (a := a) (b := b) j
    rw [mn_s, heapAt_setCell_ne _ (show U.heap.size ≠ q by omega)]
    show ((mn_s U cA cC a b j).heap.push _)[q]? = _
    rw [Array.getElem?_push, if_neg (by omega)]
    exact mn_old hq j
theorem mn_new : ∀ j i, i < j → (mn_s U cA cC a b j).heap[U.heap.size + 1 + i]? = some (arrV cC b (fun _ => .int 0))
  | 0, i, h => by omega
  | j + 1, i, h => by
    obtain ⟨h1, -, -, -⟩ := mn_facts (U := U) (cA := cA) (cC := cC) (a := a) (b := b) j
    rw [mn_s, heapAt_setCell_ne _ (show U.heap.size ≠ U.heap.size + 1 + i by omega)]
    show ((mn_s U cA cC a b j).heap.push _)[U.heap.size + 1 + i]? = _
    rw [Array.getElem?_push, h1]
    by_cases e1 : i = j
    · rw [if_pos (by omega)]
    · rw [if_neg (by omega)]; exact mn_new j i (by omega)
theorem mn_at (j : Nat) : ((mn_s U cA cC a b j).pushCell (arrV cC b (fun _ => .int 0))).heap[U.heap.size]? = some (arrV cA a (mn_f U.heap.size j)) := by
  obtain ⟨h1, h2, -, -⟩ := mn_facts (U := U) (cA := cA) (cC := cC) (a := a) (b := b) j
  show ((mn_s U cA cC a b j).heap.push _)[U.heap.size]? = _
  rw [Array.getElem?_push, if_neg (by omega)]
  exact h2
theorem mn_X (X : Stand p l e R s m args below meth c U locs cells slots) : ∀ j, ∃ J : List Loc, (∀ x ∈ J, x.base = U.heap.size) ∧ Stand p l e R s m args below meth c (mn_s U cA cC a b j) (locs ++ J) (cells + 1 + j) (slots + a + j * b)
  | 0 => by
    have h := X.pushed (arrV cA a (mn_f U.heap.size 0))
    rw [arrV_size] at h
    refine ⟨[], (fun x hx => by cases hx), ?_⟩
    rw [mn_s, Nat.zero_mul, List.append_nil]
    exact h
  | j + 1 => by
    obtain ⟨J, hJ, h0⟩ := mn_X X j
    have h := h0.pushed (arrV cC b (fun _ => .int 0))
    rw [arrV_size] at h
    have h5 := h.stored (mn_at j) j (.ref (U.heap.size + 1 + j))
    rw [arrV_store, mn_f_s] at h5
    refine ⟨J ++ [⟨U.heap.size, j⟩], fun x hx => ?_, ?_⟩
    · rcases List.mem_append.mp hx with h6 | h6
      · exact hJ x h6
      · rw [List.mem_singleton.mp h6]
    · rw [mn_s, ← List.append_assoc, show slots + a + (j + 1) * b = slots + a + j * b + b by rw [Nat.succ_mul]; omega]
      exact h5
theorem mn_one {E : CtlPost} {d : Bool} {acts : List Action} {V : State} {kC : Class} {cc : ClassId} {k : Int32} (hkC : V.vm.classes[cC]? = some kC) (hkindC : kC.kind = .array cc .int) (hk : ¬ k < 0) (hkb : k.toNatClampNeg = b)
    (hl : ¬ b > e.platform.arrayLengthLimit) (hh : ¬ b * componentBytes .int > e.platform.maxHeapBytes) (h1 : V.heap.size < e.platform.maxCells) (h2 : V.slotsUsed + b ≤ e.platform.maxSlots)
    {Q : Addr → Pre} (hq : ∀ acts', Q V.heap.size d acts' (V.pushCell (arrV cC b (fun _ => .int 0)))) : wp (Jvm.Op.multianewarray.make cC [k]) Q E e d acts V := by
  subst hkb
  rw [Jvm.Op.multianewarray.make]
  simp only [wp_bind', Jvm.W.ite, hk, if_false, wp_pure', Jvm.W.theClass, hkC, hkindC, Option.some.injEq, exists_eq_left']
  refine Jvm.W.newArray_of hkC hkindC hl hh h1 h2 rfl (fun acts' => ?_)
  have h3 := hq acts'
  rw [← arrV_new] at h3
  exact h3
theorem mn_two {E : CtlPost} {d : Bool} {acts : List Action} {V : State} {kA kC : Class} {cc : ClassId} {n k : Int32} (hkA : V.vm.classes[cA]? = some kA) (hkindA : kA.kind = .array cC (.array .int)) (hkC : V.vm.classes[cC]? = some kC) (hkindC : kC.kind = .array cc .int)
    (hn : ¬ n < 0) (hk : ¬ k < 0) (hna : n.toNatClampNeg = a) (hkb : k.toNatClampNeg = b) (hl1 : ¬ a > e.platform.arrayLengthLimit) (hh1 : ¬ a * componentBytes (.array .int) > e.platform.maxHeapBytes) (hl2 : ¬ b > e.platform.arrayLengthLimit) (hh2 : ¬ b * componentBytes .int > e.platform.maxHeapBytes)
    (hc : V.heap.size + 1 + a ≤ e.platform.maxCells) (hs : V.slotsUsed + a + a * b ≤ e.platform.maxSlots) {Q : Addr → Pre} (hq : ∀ d' acts', Q V.heap.size d' acts' (mn_s V cA cC a b a)) : wp (Jvm.Op.multianewarray.make cA [n, k]) Q E e d acts V := by
  have hf : ([k].find? (· < 0)) = none := by simp [hk]
  rw [Jvm.Op.multianewarray.make]
  simp only [wp_bind', Jvm.W.ite, hn, if_false, wp_pure', Jvm.W.theClass, hkA, hkindA, Option.some.injEq, exists_eq_left']
  rw [hna]
  refine Jvm.W.newArray_of hkA hkindA hl1 hh1 (by omega) (by have := Nat.zero_le (a * b); omega) rfl (fun acts1 => ?_)
  rw [show ({ cls := cA, slots := Array.replicate a Value.null } : Cell) = arrV cA a (mn_f V.heap.size 0) from (arrV_new cA a .null).trans (congrArg (arrV cA a) (by funext i; unfold mn_f; rw [if_neg (by omega)]))]
  simp only [hf]
  rw [ite_self, wp_bind', Std.Legacy.Range.forIn_eq_forIn_range', show ([:a] : Std.Legacy.Range).size = a by simp [Std.Legacy.Range.size]]
  refine Jvm.wp_forIn_inv (fun rest V1 => ∃ j, j ≤ a ∧ rest = List.range' j (a - j) ∧ V1 = mn_s V cA cC a b j) _ _ ⟨0, Nat.zero_le _, rfl, rfl⟩ ?_ ?_
  · rintro x rest V1 d1 acts2 Q1 ⟨j, hj, hr, rfl⟩ hnx
    have hja : j < a := by
      by_cases h : j < a
      · exact h
      · rw [show a - j = 0 by omega] at hr; cases hr
    rw [show a - j = (a - (j + 1)) + 1 by omega, List.range'_succ] at hr
    injection hr with hx hr2
    subst hx
    obtain ⟨f1, f2, f3, f4⟩ := mn_facts (U := V) (cA := cA) (cC := cC) (a := a) (b := b) x
    have hmul : x * b + b ≤ a * b := by
      have h := Nat.mul_le_mul_right b (show x + 1 ≤ a from hja)
      rw [Nat.succ_mul] at h; exact h
    simp only [wp_bind']
    refine mn_one (by rw [f3]; exact hkC) hkindC hk hkb hl2 hh2 (by rw [f1]; omega) (by rw [f4]; omega) (fun acts3 => ?_)
    simp only [wp_bind', Jvm.W.writeLoc, wp_pure']
    refine ⟨_, mn_at x, (by intro h; cases h), (by rw [arrV_size]; exact hja), ?_, hnx _ _ _ ⟨x + 1, hja, hr2, ?_⟩⟩
    · simp [arrV, State.fitsSlot, State.slotType?, f3, hkA, hkindA, fits]
    · rw [arrV_store, f1, mn_f_s]; rfl
  · rintro V1 d1 acts2 ⟨j, hj, hr, rfl⟩
    have hja : j = a := by
      by_cases h : j < a
      · rw [show a - j = (a - (j + 1)) + 1 by omega, List.range'_succ] at hr; cases hr
      · omega
    subst hja
    simp only [wp_pure']
    exact hq _ _
theorem mn_row (X : Stand p l e R s m args below meth c T locs cells slots) (hexec : p.tables.exec = Jvm.exec) {own : String} {idx : Nat} (hown : s.vm.findClass own = some m.cls) (hclink : (Cond.classLink own idx ("[" ++ (FieldType.array .int).toString)).before args s = true)
    (hover : (Cond.arrayOver (.array .int)).before args s = true) (harr : (Cond.arrayClass .int).before args s = true) {g : JFrame} (hg : g.method = m) (hdg : decode c.code g.pc = .ok (.multianewarray idx 2, 4)) {n k : Int32} {rest : List Value} (hstack : g.stack = .int k :: .int n :: rest)
    (hn : ¬ n < 0) (hk : ¬ k < 0) (hna : n.toNatClampNeg = a) (hkb : k.toNatClampNeg = b) (ha : a ≤ 1000000) (hb : b ≤ 1000000) (hcells : cells + (1 + a) ≤ R.cells) (hslots : slots + (a + a * b) ≤ R.slots) :
    ∃ (cA cC : ClassId) (U : State) (J : List Loc), U.heap = T.heap ∧ s.vm.findClass ("[" ++ (FieldType.array .int).toString) = some cA ∧ s.vm.findClass ("[" ++ FieldType.int.toString) = some cC ∧ (∀ x ∈ J, x.base = T.heap.size) ∧ Stand p l e R s m args below meth c (mn_s U cA cC a b a) (locs ++ J) (cells + 1 + a) (slots + a + a * b) ∧
      ∀ t, Steps p.tables e below ((mn_s U cA cC a b a).setTop { g with pc := g.pc + 4, stack := .ref T.heap.size :: rest }) t → Steps p.tables e below (T.setTop g) t := by
  subst hg
  obtain ⟨c2, c1, k1, hn2, -, hk1, hkind1, hn1⟩ := arrayOverA_spec hover
  obtain ⟨c3, k2, cc, hn3, hk2, hkind2⟩ := Cond.arrayClass_spec harr
  have e3 : c3 = c2 := Option.some.inj (hn3.symm.trans hn2)
  subst e3
  obtain ⟨c4, hn4, hcl⟩ := Cond.classLink_spec hown hclink e.platform (by rw [X.admits.platform])
  cases hn1.symm.trans hn4
  obtain ⟨hgv, hwm, -⟩ := State.classEntry (e := e) X.warmed hcl
  generalize T.vm.noted g.method.cls idx (.cls c1) = vm1 at hgv hwm
  obtain ⟨k3, hk3, he3⟩ := hwm.alike.2.2 _ _ hk1
  obtain ⟨k4, hk4, he4⟩ := hwm.alike.2.2 _ _ hk2
  obtain ⟨J, hJ, XF⟩ := mn_X (cA := c1) (cC := c3) (a := a) (b := b) (X.noted hwm) a
  refine ⟨c1, c3, T.setVm vm1, J, rfl, hn1, hn3, hJ, XF, fun t ht => ?_⟩
  obtain ⟨r1, r2⟩ := X.roomAbove hcells hslots
  have hl := Launch.admits_arrayLengthLimit X.admits
  have hh := Launch.admits_maxHeapBytes X.admits
  jvm_step X.here [hexec, hdg]
  simp only [Jvm.Op.multianewarray.sem, wp_bind', Jvm.W.resolveClassAt_links (State.method?_setTop g X.here.top) hgv]
  rw [Jvm.W.popN, if_neg (by decide)]
  refine ⟨g, State.topJava?_setTop' (s := T.setVm vm1) g X.here.top, [.int n, .int k], rest, rfl, hstack, ?_⟩
  simp only [List.mapM_cons, List.mapM_nil, wp_bind', wp_pure']
  refine mn_two (kA := k3) (kC := k4) (cc := cc) (cC := c3) hk3 (by rw [he3]; exact hkind1) hk4 (by rw [he4]; exact hkind2) hn hk hna hkb (by rw [hl]; omega) (by rw [hh]; show ¬ a * 4 > 536870912; omega) (by rw [hl]; omega) (by rw [hh]; show ¬ b * 4 > 536870912; omega) (by show T.heap.size + 1 + a ≤ _; omega) (by show T.slotsUsed + a + a * b ≤ _; omega) (fun d1 acts1 => ?_)
  have eS : ((T.setTop g).setVm vm1).setTop { g with stack := rest } = (T.setVm vm1).setTop { g with stack := rest } := by
    show ((T.setVm vm1).setTop g).setTop _ = _
    rw [State.setTop_setTop]
  rw [eS, mn_top]
  simp only [wp_bind', Jvm.W.mark, Jvm.W.pushRef, State.topJava?_setTop' _ XF.here.top, Option.some.injEq, exists_eq_left', State.setTop_setTop, State.heap_setTop]
  intro acts2
  simp [jvm, XF.here.top]
  exact ht
end
