/-! ===== what stands beside the street: rows, sheets, shelves, trace, tape: one row of numbers ===== -/
abbrev sg_E : Type := Nat → Int32
def eU (E : sg_E) (k : Nat) (v : Int32) : sg_E := fun j => if j = k then v else E j
theorem eU_s {E : sg_E} {k : Nat} {v : Int32} : eU E k v k = v := if_pos rfl
theorem eU_n {E : sg_E} {k j : Nat} {v : Int32} (h : j ≠ k) : eU E k v j = E j := if_neg h
def eN (x : Int32) (n : Nat) : Prop := x = nI (tN x) ∧ tN x ≤ n
theorem eN_i {n m : Nat} (h : m ≤ n) (hn : n < 2 ^ 31) : eN (nI m) n := by
  unfold eN
  rw [tN_nI (by omega)]
  exact ⟨rfl, h⟩
theorem eN_of {v : Int32} {n : Nat} (hn : n < 2 ^ 31) (h0 : nI 0 ≤ v) (h1 : v ≤ nI n) : eN v n := tN_of hn h0 h1
theorem eN.pos {v : Int32} {n : Nat} (h : eN v n) (hn : n < 2 ^ 31) : nI 0 ≤ v := by
  rw [h.1]
  exact nI_le (by omega) (by have := h.2; omega)
/-- 0 rows, 1.. row, 20.. sorts, 24.. sizes, 28.. holds, 32.. held, 36.. heldSize, 40 traced, 41.. trace, 80 taped, 81.. tape, 300.. cells -/
def eI (E : sg_E) : Prop := eN (E 0) 4 ∧ (∀ s, s < 4 → (E (20 + s) = -1 ∨ eN (E (20 + s)) 4) ∧ eN (E (24 + s)) 40 ∧ (E (28 + s) = nI 0 ∨ E (28 + s) = nI 1 ∨ E (28 + s) = nI 2) ∧ (E (28 + s) = nI 1 → eN (E (32 + s)) 4)) ∧ eN (E 40) 30 ∧ eN (E 80) 200 ∧ ∀ i, i < 200 → eN (E (81 + i)) 255
def eL (q k j : Nat) : Prop := (q = 104 ∧ ((k = 20 ∧ j = 0) ∨ (k = 29 ∧ j = 40) ∨ (k = 5 ∧ j = 80))) ∨ (q = 112 ∧ k < 12 ∧ j = 1 + k) ∨ (q = 113 ∧ k < 4 ∧ j = 20 + k) ∨ (q = 114 ∧ k < 4 ∧ j = 24 + k) ∨ (q = 116 ∧ k < 4 ∧ j = 28 + k) ∨ (q = 117 ∧ k < 4 ∧ j = 32 + k) ∨ (q = 118 ∧ k < 4 ∧ j = 36 + k) ∨ (q = 119 ∧ k < 30 ∧ j = 41 + k) ∨ (q = 108 ∧ k < 200 ∧ j = 81 + k)
theorem eL_lt {q k j : Nat} (h : eL q k j) : j < 300 := by unfold eL at h; omega
theorem eL_q {q k j : Nat} (h : eL q k j) : (q = 104 ∧ (k = 20 ∨ k = 29 ∨ k = 5)) ∨ q = 108 ∨ 112 ≤ q := by unfold eL at h; omega
theorem eL_inj {q k q' k' j : Nat} (h : eL q k j) (h' : eL q' k' j) : q' = q ∧ k' = k := by
  unfold eL at h h'
  rcases h with h | h | h | h | h | h | h | h | h <;> omega
theorem eL_fun {q k j j' : Nat} (h : eL q k j) (h' : eL q k j') : j' = j := by
  unfold eL at h h'
  rcases h with h | h | h | h | h | h | h | h | h <;> omega
theorem eL_113 {s : Nat} (h : s < 4) : eL 113 s (20 + s) := by unfold eL; omega
theorem eL_114 {s : Nat} (h : s < 4) : eL 114 s (24 + s) := by unfold eL; omega
theorem eL_116 {s : Nat} (h : s < 4) : eL 116 s (28 + s) := by unfold eL; omega
theorem eL_117 {s : Nat} (h : s < 4) : eL 117 s (32 + s) := by unfold eL; omega
theorem eL_118 {s : Nat} (h : s < 4) : eL 118 s (36 + s) := by unfold eL; omega
theorem eL_112 {s : Nat} (h : s < 12) : eL 112 s (1 + s) := by unfold eL; omega
theorem eL_119 {s : Nat} (h : s < 30) : eL 119 s (41 + s) := by unfold eL; omega
theorem eL_108 {s : Nat} (h : s < 200) : eL 108 s (81 + s) := by unfold eL; omega
theorem eL_0 : eL 104 20 0 := by unfold eL; omega
theorem eL_40 : eL 104 29 40 := by unfold eL; omega
theorem eL_80 : eL 104 5 80 := by unfold eL; omega
def rE1 (E : sg_E) (M : dk_Mem) : Prop := ∀ q k j, eL q k j → M.1 q k = E j
def rE (E : sg_E) (M : dk_Mem) : Prop := rE1 E M ∧ ∀ i, i < 160 → M.2 115 i = (E (300 + i)).toInt64
theorem rE1.put {E : sg_E} {M : dk_Mem} (h : rE1 E M) {q k j : Nat} {v : Int32} (hj : eL q k j) : rE1 (eU E j v) (dk_put M q k v) := fun q' k' j' h' => by
  by_cases e : q' = q ∧ k' = k
  · obtain ⟨rfl, rfl⟩ := e
    rw [dk_put_s, eL_fun hj h', eU_s]
  · rw [dk_put_k e, eU_n (j := j') (fun z => e (eL_inj hj (by rw [← z]; exact h')))]
    exact h q' k' j' h'
theorem rE.put {E : sg_E} {M : dk_Mem} (h : rE E M) {q k j : Nat} {v : Int32} (hj : eL q k j) : rE (eU E j v) (dk_put M q k v) := ⟨h.1.put hj, fun i hi => by
  have a := eL_lt hj
  rw [eU_n (by omega)]
  exact h.2 i hi⟩
/-- a frame that leaves longs open -/
def dk_fe (S : Nat → Nat → Prop) (M M' : dk_Mem) : Prop := ∀ q k, ¬ S q k → M'.1 q k = M.1 q k
theorem dk_fe.rf {S : Nat → Nat → Prop} {M : dk_Mem} : dk_fe S M M := fun _ _ _ => rfl
theorem dk_fe.tr {S : Nat → Nat → Prop} {M M1 M2 : dk_Mem} (h1 : dk_fe S M M1) (h2 : dk_fe S M1 M2) : dk_fe S M M2 := fun q k h => (h2 q k h).trans (h1 q k h)
theorem dk_fe.up {S S' : Nat → Nat → Prop} {M M1 : dk_Mem} (h1 : dk_fe S M M1) (h : ∀ q k, S q k → S' q k) : dk_fe S' M M1 := fun q k hn => h1 q k (fun z => hn (h q k z))
theorem dk_fe.put {S : Nat → Nat → Prop} {M M1 : dk_Mem} {p j : Nat} {x : Int32} (h1 : dk_fe S M M1) (h : S p j) : dk_fe S M (dk_put M1 p j x) := fun q k hn => by
  rw [dk_put_k (fun z => hn (by rw [z.1, z.2]; exact h))]
  exact h1 q k hn
theorem dk_fr.e {S : Nat → Nat → Prop} {M M1 : dk_Mem} (h : dk_fr S M M1) : dk_fe S M M1 := h.2
def rX (q k : Nat) : Prop := (q = 104 ∧ (k = 20 ∨ k = 29 ∨ k = 5 ∨ k = 30)) ∨ q = 108 ∨ 112 ≤ q
theorem rK.X {K : sg_K} {M M' : dk_Mem} (h : rK K M) (hf : dk_fe rX M M') : rK K M' := by
  obtain ⟨h1, h2, ⟨f, h3, h4⟩, h5, h6⟩ := h
  have e : ∀ k, M'.1 105 k = M.1 105 k := fun k => hf 105 k (by unfold rX; omega)
  exact ⟨h1, fun j a b c => (e j).trans (h2 j a b c), ⟨f, h3, fun k a b => (e k).trans (h4 k a b)⟩, (e 2).trans h5, (e 3).trans h6⟩
theorem rE.fr {E : sg_E} {M M' : dk_Mem} (h : rE E M) {S : Nat → Nat → Prop} (hf : dk_fr S M M') (hS : ∀ q k, S q k → q ≠ 108 ∧ q < 112 ∧ (q = 104 → k ≠ 20 ∧ k ≠ 29 ∧ k ≠ 5)) : rE E M' := ⟨fun q k j hj => by
  have a := eL_q hj
  rw [hf.2 q k (fun z => by have := hS q k z; omega)]
  exact h.1 q k j hj, fun i hi => by rw [hf.1]; exact h.2 i hi⟩
theorem rE.A {E : sg_E} {M M' : dk_Mem} (h : rE E M) (hf : dk_fr rA M M') : rE E M' := h.fr hf (fun q k z => by unfold rA rN at z; omega)
theorem dk_finE {α : Type} {f : Int32 × α} {R : α → dk_Mem → Prop} {S : Nat → Nat → Prop} {M M2 : dk_Mem} {Q : Option Value → dk_Mem → Prop} {x : Int32} {K' : α} (hq : ∀ M2, R f.2 M2 → dk_fe S M M2 → Q (some (.int f.1)) M2) (e : f = (x, K')) (h : R K' M2) (hf : dk_fe S M M2) : Q (some (.int x)) M2 := by
  subst e
  exact hq M2 h hf
/-! the calls -/
def eS (E : sg_E) (s : Nat) (t n : Int32) : sg_E := fun j => if j = 20 + s then t else if j = 24 + s then (if t < 0 then nI 0 else n) else if 300 + 40 * s ≤ j ∧ j < 340 + 40 * s then 0 else E j
def ef_sheet (E : sg_E) (s t n : Int32) : Int32 × sg_E := if (nI 0 ≤ s ∧ s ≤ nI 3) ∧ (-1 ≤ t ∧ t ≤ nI 4) ∧ ¬ (0 ≤ t ∧ nI 40 < n) then (if 0 ≤ t ∧ n < 0 then (-14, E) else (nI 1, eS E (tN s) t n)) else (-1, E)
def eW (t v : Int32) : Int32 := if t = 0 then v.toInt8.toInt32 else if t = nI 1 then v.toInt16.toInt32 else if t = nI 4 then (if v = 0 then 0 else 1) else v
def ef_write (E : sg_E) (s i v : Int32) : Int32 × sg_E := if nI 0 ≤ s ∧ s ≤ nI 3 then (if E (20 + tN s) < 0 then (-11, E) else if nI 0 ≤ i ∧ i ≤ E (24 + tN s) - nI 1 then (nI 1, eU E (300 + (40 * tN s + tN i)) (eW (E (20 + tN s)) v)) else (-12, E)) else (-1, E)
def ef_item (E : sg_E) (s t i : Int32) : Int32 × sg_E := (if (nI 0 ≤ s ∧ s ≤ nI 3) ∧ nI 0 ≤ t ∧ t ≤ nI 4 then (if E (20 + tN s) < 0 then -11 else if E (20 + tN s) = t then (if nI 0 ≤ i ∧ i ≤ E (24 + tN s) - nI 1 then E (300 + (40 * tN s + tN i)) else -12) else -13) else -1, E)
def eR (E : sg_E) (x n : Int32) : Prop := x = nI 1 ∧ 0 ≤ E (20 + tN n)
def eF (E : sg_E) (s : Nat) (x n : Int32) : sg_E := eU (eU (eU E (28 + s) (if x = nI 1 ∧ ¬ (0 ≤ E (20 + tN n)) then nI 2 else x)) (32 + s) (if x = nI 1 ∧ 0 ≤ E (20 + tN n) then E (20 + tN n) else n)) (36 + s) (if x = nI 1 ∧ 0 ≤ E (20 + tN n) then E (24 + tN n) else nI 0)
def ef_shelf (K : sg_K) (E : sg_E) (s x n : Int32) : Int32 × sg_E := if (nI 0 ≤ s ∧ s ≤ nI 3) ∧ (nI 0 ≤ x ∧ x ≤ nI 2) ∧ (x = 0 → sg_pc K.1 n ≠ none) ∧ (x = nI 1 → nI 0 ≤ n ∧ n ≤ nI 3) then (nI 1, eF E (tN s) x n) else (-1, E)
def eP (K : sg_K) (E : sg_E) (s : Nat) : Option Nat := if E (28 + s) = 0 then sg_pc K.1 (E (32 + s)) else none
def sg_ub (k a : Nat) : Bool := a == 0 || k == a || (a == 2 && k == 3) || (a == 4 && k == 5)
theorem sg_ub_y {k a : Nat} (h : sg_un k a) : sg_ub k a = true := by unfold sg_un at h; unfold sg_ub; rcases h with h | h | h | h <;> simp [h]
theorem sg_ub_n {k a : Nat} (h : ¬ sg_un k a) : sg_ub k a = false := by
  unfold sg_un at h
  unfold sg_ub
  simp
  omega
def ef_taken (K : sg_K) (E : sg_E) (s a : Int32) : Int32 × sg_E := (if (nI 0 ≤ s ∧ s ≤ nI 3) ∧ ((nI 0 ≤ a ∧ a ≤ nI 5) ∨ (nI 10 ≤ a ∧ a ≤ nI 14)) then (match eP K E (tN s) with
  | some h => (if a < nI 6 ∧ sg_ub (K.1 (35 + 5 * h)) (tN a) = true then nI h else -13)
  | none => (if E (28 + tN s) = nI 1 then (if a = nI 10 + E (32 + tN s) then E (36 + tN s) else -13) else -11)) else -1, E)
def ef_row (E : sg_E) (k x : Int32) : Int32 × sg_E := (if (nI 0 ≤ k ∧ k ≤ E 0 - nI 1) ∧ nI 0 ≤ x ∧ x ≤ nI 2 then E (1 + (3 * tN k + tN x)) else -9, E)
def ef_alter (E : sg_E) (k x v : Int32) : Int32 × sg_E := if (nI 0 ≤ k ∧ k ≤ E 0 - nI 1) ∧ nI 0 ≤ x ∧ x ≤ nI 2 then (E (1 + (3 * tN k + tN x)), eU E (1 + (3 * tN k + tN x)) v) else (-9, E)
def ef_trace (E : sg_E) (i : Int32) : Int32 × sg_E := (if nI 0 ≤ i ∧ i ≤ E 40 - nI 1 then E (41 + tN i) else -3, E)
def ef_many (K : sg_K) (E : sg_E) (x : Int32) : Int32 × sg_E := (if x = nI 0 then nI (K.1 4) else if x = nI 1 then nI (K.1 6) else if x = nI 2 then nI (sg_bits (sg_set K.1 (K.1 4))) else if x = nI 3 then nI (K.1 5) else if x = nI 4 then E 0 else if x = nI 5 then E 80 else if x = nI 6 then E 40 else -1, E)
theorem eN.in {x i : Int32} {n : Nat} (h : eN x n) (hn : n < 2 ^ 31) (h0 : nI 0 ≤ i) (h1 : i ≤ x - nI 1) : i = nI (tN i) ∧ tN i < tN x ∧ tN x ≤ n := by
  rw [h.1] at h1
  obtain ⟨j, hj, e⟩ := (q_in (by have := h.2; omega)).mp ⟨h0, h1⟩
  subst e
  have := h.2
  rw [tN_nI (by omega)]
  exact ⟨rfl, hj, h.2⟩
def zL (M : dk_Mem) (b k : Nat) : dk_Mem := (M.1, fun q j => if q = 115 ∧ b ≤ j ∧ j < b + k then 0 else M.2 q j)
theorem zL_0 {M : dk_Mem} {b : Nat} : zL M b 0 = M := by
  refine Prod.ext rfl (funext fun q => funext fun j => ?_)
  show (if q = 115 ∧ b ≤ j ∧ j < b + 0 then 0 else M.2 q j) = _
  rw [if_neg (by omega)]
theorem zL_s {M : dk_Mem} {b k : Nat} : dk_putL (zL M b k) 115 (b + k) 0 = zL M b (k + 1) := by
  refine Prod.ext rfl (funext fun q => funext fun j => ?_)
  show (if q = 115 ∧ j = b + k then 0 else if q = 115 ∧ b ≤ j ∧ j < b + k then 0 else M.2 q j) = if q = 115 ∧ b ≤ j ∧ j < b + (k + 1) then 0 else M.2 q j
  by_cases e : q = 115 ∧ b ≤ j ∧ j < b + (k + 1)
  · rw [if_pos e]
    by_cases e2 : q = 115 ∧ j = b + k
    · rw [if_pos e2]
    · rw [if_neg e2, if_pos (by omega)]
  · rw [if_neg e, if_neg (by omega), if_neg (by omega)]
theorem rE.sheet {E : sg_E} {M : dk_Mem} (h : rE E M) {s : Nat} (hs : s < 4) {t n v : Int32} (hv : v = if t < 0 then nI 0 else n) : rE (eS E s t n) (zL (dk_put (dk_put M 113 s t) 114 s v) (40 * s) 40) := by
  have h1 := (h.1.put (v := t) (eL_113 hs)).put (v := v) (eL_114 hs)
  refine ⟨fun q k j hj => ?_, fun i hi => ?_⟩
  · have a := eL_lt hj
    rw [show (zL (dk_put (dk_put M 113 s t) 114 s v) (40 * s) 40).1 q k = (dk_put (dk_put M 113 s t) 114 s v).1 q k from rfl, h1 q k j hj]
    unfold eU eS
    by_cases e1 : j = 24 + s
    · rw [if_pos e1, if_neg (by omega), if_pos e1, hv]
    · rw [if_neg e1]
      by_cases e2 : j = 20 + s
      · rw [if_pos e2, if_pos e2]
      · rw [if_neg e2, if_neg e2, if_neg e1, if_neg (by omega)]
  · have e1 : eS E s t n (300 + i) = if 300 + 40 * s ≤ 300 + i ∧ 300 + i < 340 + 40 * s then 0 else E (300 + i) := by
      unfold eS
      rw [if_neg (show ¬ 300 + i = 20 + s by omega), if_neg (show ¬ 300 + i = 24 + s by omega)]
    rw [e1]
    by_cases e : 40 * s ≤ i ∧ i < 40 * s + 40
    · rw [if_pos (show 300 + 40 * s ≤ 300 + i ∧ 300 + i < 340 + 40 * s by omega)]
      exact if_pos (c := 115 = 115 ∧ 40 * s ≤ i ∧ i < 40 * s + 40) ⟨rfl, e⟩
    · rw [if_neg (show ¬ (300 + 40 * s ≤ 300 + i ∧ 300 + i < 340 + 40 * s) by omega), ← h.2 i hi]
      exact if_neg (c := 115 = 115 ∧ 40 * s ≤ i ∧ i < 40 * s + 40) (fun z => e z.2)
theorem rE.putL {E : sg_E} {M : dk_Mem} (h : rE E M) {k : Nat} {v : Int32} {x : Int64} (hx : x = v.toInt64) : rE (eU E (300 + k) v) (dk_putL M 115 k x) := by
  subst hx
  refine ⟨fun q k j hj => ?_, fun i hi => ?_⟩
  · have a := eL_lt hj
    rw [eU_n (by omega)]
    exact h.1 q k j hj
  · show (if 115 = 115 ∧ i = k then v.toInt64 else M.2 115 i) = _
    by_cases e : i = k
    · rw [if_pos ⟨rfl, e⟩, e, eU_s]
    · rw [if_neg (by omega), eU_n (by omega)]; exact h.2 i hi

set_option maxRecDepth 20000 in
theorem r_shL {d : Nat} {M : dk_Mem} {Q : Option Value → dk_Mem → Prop} {s : Nat} (hs : s < 4) {t n0 : Int32} (hq : Q (some (.int (nI 1))) (zL M (40 * s) 40)) : ∀ (n k : Nat), k ≤ 40 → 40 - k < n → dk_W d mX12_sheet 64 [some (.ref 104), some (.int (nI s)), some (.int t), some (.int n0), some (.int (nI k))] [] (zL M (40 * s) k) Q := by
  intro n
  induction n with
  | zero => intro i _ h; omega
  | succ n ih =>
    intro k hi hn
    refine w_il4 (n := 66) dX12_sheet_64 rfl ?_
    refine w_bipush (n := 68) (nI 40) dX12_sheet_66 (by decide) rfl ?_
    refine w_ic_ge (n := 71) 90 dX12_sheet_68 (by decide) rfl (fun z68 => ?_) (fun z68 => ?_)
    · skip
      refine w_iconst (n := 91) (nI 1) dX12_sheet_90 (by decide) rfl ?_
      refine w_retI dX12_sheet_91 rfl ?_
      rw [q_le (by decide) (by omega)] at z68
      rw [show k = 40 by omega]
      exact hq
    · skip
      refine w_al0 (n := 72) dX12_sheet_71 rfl ?_
      refine g_R (n := 75) f_X12_41_12 pl_104 rf_104_24 dX12_sheet_72 rfl ?_
      refine w_bipush (n := 77) (nI 40) dX12_sheet_75 (by decide) rfl ?_
      refine w_il1 (n := 78) dX12_sheet_77 rfl ?_
      refine w_imul (n := 79) dX12_sheet_78 rfl ?_
      refine w_il4 (n := 81) dX12_sheet_79 rfl ?_
      refine w_iadd (n := 82) dX12_sheet_81 rfl ?_
      refine w_lconst (n := 83) 0 dX12_sheet_82 (by decide) rfl ?_
      refine i_last (n := 84) pl_115 (j := 40 * s + k) (by rw [pk_mul, nI_add]) (by rw [q_le (by decide) (by omega)] at z68; omega) (by decide) dX12_sheet_83 rfl ?_
      refine w_inc4 (n := 87) (nI 1) dX12_sheet_84 (by decide) rfl rfl (by decide) ?_
      refine w_goto 64 dX12_sheet_87 (by decide) ?_
      rw [q_le (by decide) (by omega)] at z68
      rw [zL_s, nI_add]
      exact ih (k + 1) (by omega) (by omega)

set_option maxRecDepth 20000 in
theorem R_sheet {d : Nat} {M : dk_Mem} {Q : Option Value → dk_Mem → Prop} {E : sg_E} (hE : rE E M) (hI : eI E) {s t n : Int32} (hq : ∀ M2, rE (ef_sheet E s t n).2 M2 → dk_fe rX M M2 → Q (some (.int (ef_sheet E s t n).1)) M2) : dk_Call (d + 2) mX12_sheet [.ref 104, .int s, .int t, .int n] M Q := by
  refine dk_enter [some (.ref 104), some (.int s), some (.int t), some (.int n), none] (by decide) (fun _ => rfl) (fun _ => Nat.le_of_ble_eq_true rfl) ?_
  refine w_il1 (n := 1) dX12_sheet_0 rfl ?_
  refine w_cS1 (n := 4) s0_X12_isFour k_X12_281 (Nat.le_of_ble_eq_true rfl) dX12_sheet_1 rfl (r_isFour (fun t1 => ?_) (fun t1 => ?_))
  · skip
    refine w_if_eq (n := 7) 26 dX12_sheet_4 (by decide) rfl (fun h => absurd h (by decide)) (fun _ => ?_)
    refine w_il2 (n := 8) dX12_sheet_7 rfl ?_
    refine w_iconst (n := 9) (-1) dX12_sheet_8 (by decide) rfl ?_
    refine w_iconst (n := 10) (nI 4) dX12_sheet_9 (by decide) rfl ?_
    refine w_cS3 (n := 13) s0_X12_in k_X12_61 (Nat.le_of_ble_eq_true rfl) dX12_sheet_10 rfl (r_in (fun t10 => ?_) (fun t10 => ?_))
    · skip
      refine w_if_eq (n := 16) 26 dX12_sheet_13 (by decide) rfl (fun h => absurd h (by decide)) (fun _ => ?_)
      refine w_il2 (n := 17) dX12_sheet_16 rfl ?_
      refine w_if_lt (n := 20) 28 dX12_sheet_17 (by decide) rfl (fun z17 => ?_) (fun z17 => ?_)
      · skip
        refine w_il2 (n := 29) dX12_sheet_28 rfl ?_
        refine w_if_lt (n := 32) 39 dX12_sheet_29 (by decide) rfl (fun z29 => ?_) (fun z29 => ?_)
        · skip
          have hs := tN_of (n := 3) (by decide) t1.1 t1.2
          refine w_al0 (n := 40) dX12_sheet_39 rfl ?_
          refine g_R (n := 43) f_X12_35_12 pl_104 rf_104_22 dX12_sheet_40 rfl ?_
          refine w_il1 (n := 44) dX12_sheet_43 rfl ?_
          refine w_il2 (n := 45) dX12_sheet_44 rfl ?_
          refine i_iast (n := 46) pl_113 (j := tN s) hs.1 (by omega) (by decide) dX12_sheet_45 rfl ?_
          refine w_al0 (n := 47) dX12_sheet_46 rfl ?_
          refine g_R (n := 50) f_X12_38_12 pl_104 rf_104_23 dX12_sheet_47 rfl ?_
          refine w_il1 (n := 51) dX12_sheet_50 rfl ?_
          refine w_il2 (n := 52) dX12_sheet_51 rfl ?_
          refine w_if_ge (n := 55) 59 dX12_sheet_52 (by decide) rfl (fun z52 => ?_) (fun z52 => ?_)
          · skip
            refine w_il3 (n := 60) dX12_sheet_59 rfl ?_
            refine i_iast (n := 61) pl_114 (j := tN s) hs.1 (by omega) (by decide) dX12_sheet_60 rfl ?_
            refine w_iconst (n := 62) (nI 0) dX12_sheet_61 (by decide) rfl ?_
            refine w_is4 (n := 64) dX12_sheet_62 rfl rfl (by decide) ?_
            have hq2 := dk_finE hq (by unfold ef_sheet; rw [if_pos ⟨t1, t10, by first | exact fun z => absurd z.1 (Int32.not_le.mpr z17) | exact fun z => absurd z.2 (Int32.not_lt.mpr z23)⟩]; exact if_neg (by first | exact fun z => absurd z.1 (Int32.not_le.mpr z29) | exact fun z => absurd z.2 (Int32.not_lt.mpr z33))) (hE.sheet (s := tN s) (by omega) (t := t) (n := n) rfl) (fun q k hn => by show (dk_put (dk_put M 113 _ _) 114 _ _).1 q k = _; rw [dk_put_k (fun z => hn (by unfold rX; omega)), dk_put_k (fun z => hn (by unfold rX; omega))])
            first | rw [if_pos z52] at hq2 | rw [if_neg (Int32.not_lt.mpr z52)] at hq2 | rw [if_pos (Int32.not_le.mp z52)] at hq2
            have hx := hs.1
            generalize hx3 : tN s = s0 at *
            subst hx
            have k1 := r_shL (d := d + 2) (s := s0) (by omega) (t := t) (n0 := n) hq2 41 0 (by omega) (by omega)
            rw [zL_0] at k1
            exact k1
          · skip
            refine w_iconst (n := 56) (nI 0) dX12_sheet_55 (by decide) rfl ?_
            refine w_goto 60 dX12_sheet_56 (by decide) ?_
            refine i_iast (n := 61) pl_114 (j := tN s) hs.1 (by omega) (by decide) dX12_sheet_60 rfl ?_
            refine w_iconst (n := 62) (nI 0) dX12_sheet_61 (by decide) rfl ?_
            refine w_is4 (n := 64) dX12_sheet_62 rfl rfl (by decide) ?_
            have hq2 := dk_finE hq (by unfold ef_sheet; rw [if_pos ⟨t1, t10, by first | exact fun z => absurd z.1 (Int32.not_le.mpr z17) | exact fun z => absurd z.2 (Int32.not_lt.mpr z23)⟩]; exact if_neg (by first | exact fun z => absurd z.1 (Int32.not_le.mpr z29) | exact fun z => absurd z.2 (Int32.not_lt.mpr z33))) (hE.sheet (s := tN s) (by omega) (t := t) (n := n) rfl) (fun q k hn => by show (dk_put (dk_put M 113 _ _) 114 _ _).1 q k = _; rw [dk_put_k (fun z => hn (by unfold rX; omega)), dk_put_k (fun z => hn (by unfold rX; omega))])
            first | rw [if_pos z52] at hq2 | rw [if_neg (Int32.not_lt.mpr z52)] at hq2 | rw [if_pos (Int32.not_le.mp z52)] at hq2
            have hx := hs.1
            generalize hx3 : tN s = s0 at *
            subst hx
            have k1 := r_shL (d := d + 2) (s := s0) (by omega) (t := t) (n0 := n) hq2 41 0 (by omega) (by omega)
            rw [zL_0] at k1
            exact k1
        · skip
          refine w_il3 (n := 33) dX12_sheet_32 rfl ?_
          refine w_if_ge (n := 36) 39 dX12_sheet_33 (by decide) rfl (fun z33 => ?_) (fun z33 => ?_)
          · skip
            have hs := tN_of (n := 3) (by decide) t1.1 t1.2
            refine w_al0 (n := 40) dX12_sheet_39 rfl ?_
            refine g_R (n := 43) f_X12_35_12 pl_104 rf_104_22 dX12_sheet_40 rfl ?_
            refine w_il1 (n := 44) dX12_sheet_43 rfl ?_
            refine w_il2 (n := 45) dX12_sheet_44 rfl ?_
            refine i_iast (n := 46) pl_113 (j := tN s) hs.1 (by omega) (by decide) dX12_sheet_45 rfl ?_
            refine w_al0 (n := 47) dX12_sheet_46 rfl ?_
            refine g_R (n := 50) f_X12_38_12 pl_104 rf_104_23 dX12_sheet_47 rfl ?_
            refine w_il1 (n := 51) dX12_sheet_50 rfl ?_
            refine w_il2 (n := 52) dX12_sheet_51 rfl ?_
            refine w_if_ge (n := 55) 59 dX12_sheet_52 (by decide) rfl (fun z52 => ?_) (fun z52 => ?_)
            · skip
              refine w_il3 (n := 60) dX12_sheet_59 rfl ?_
              refine i_iast (n := 61) pl_114 (j := tN s) hs.1 (by omega) (by decide) dX12_sheet_60 rfl ?_
              refine w_iconst (n := 62) (nI 0) dX12_sheet_61 (by decide) rfl ?_
              refine w_is4 (n := 64) dX12_sheet_62 rfl rfl (by decide) ?_
              have hq2 := dk_finE hq (by unfold ef_sheet; rw [if_pos ⟨t1, t10, by first | exact fun z => absurd z.1 (Int32.not_le.mpr z17) | exact fun z => absurd z.2 (Int32.not_lt.mpr z23)⟩]; exact if_neg (by first | exact fun z => absurd z.1 (Int32.not_le.mpr z29) | exact fun z => absurd z.2 (Int32.not_lt.mpr z33))) (hE.sheet (s := tN s) (by omega) (t := t) (n := n) rfl) (fun q k hn => by show (dk_put (dk_put M 113 _ _) 114 _ _).1 q k = _; rw [dk_put_k (fun z => hn (by unfold rX; omega)), dk_put_k (fun z => hn (by unfold rX; omega))])
              first | rw [if_pos z52] at hq2 | rw [if_neg (Int32.not_lt.mpr z52)] at hq2 | rw [if_pos (Int32.not_le.mp z52)] at hq2
              have hx := hs.1
              generalize hx3 : tN s = s0 at *
              subst hx
              have k1 := r_shL (d := d + 2) (s := s0) (by omega) (t := t) (n0 := n) hq2 41 0 (by omega) (by omega)
              rw [zL_0] at k1
              exact k1
            · skip
              refine w_iconst (n := 56) (nI 0) dX12_sheet_55 (by decide) rfl ?_
              refine w_goto 60 dX12_sheet_56 (by decide) ?_
              refine i_iast (n := 61) pl_114 (j := tN s) hs.1 (by omega) (by decide) dX12_sheet_60 rfl ?_
              refine w_iconst (n := 62) (nI 0) dX12_sheet_61 (by decide) rfl ?_
              refine w_is4 (n := 64) dX12_sheet_62 rfl rfl (by decide) ?_
              have hq2 := dk_finE hq (by unfold ef_sheet; rw [if_pos ⟨t1, t10, by first | exact fun z => absurd z.1 (Int32.not_le.mpr z17) | exact fun z => absurd z.2 (Int32.not_lt.mpr z23)⟩]; exact if_neg (by first | exact fun z => absurd z.1 (Int32.not_le.mpr z29) | exact fun z => absurd z.2 (Int32.not_lt.mpr z33))) (hE.sheet (s := tN s) (by omega) (t := t) (n := n) rfl) (fun q k hn => by show (dk_put (dk_put M 113 _ _) 114 _ _).1 q k = _; rw [dk_put_k (fun z => hn (by unfold rX; omega)), dk_put_k (fun z => hn (by unfold rX; omega))])
              first | rw [if_pos z52] at hq2 | rw [if_neg (Int32.not_lt.mpr z52)] at hq2 | rw [if_pos (Int32.not_le.mp z52)] at hq2
              have hx := hs.1
              generalize hx3 : tN s = s0 at *
              subst hx
              have k1 := r_shL (d := d + 2) (s := s0) (by omega) (t := t) (n0 := n) hq2 41 0 (by omega) (by omega)
              rw [zL_0] at k1
              exact k1
          · skip
            refine w_bipush (n := 38) (-14) dX12_sheet_36 (by decide) rfl ?_
            refine w_retI dX12_sheet_38 rfl ?_
            exact dk_finE hq (by unfold ef_sheet; rw [if_pos ⟨t1, t10, by first | exact fun z => absurd z.1 (Int32.not_le.mpr z17) | exact fun z => absurd z.2 (Int32.not_lt.mpr z23)⟩]; exact if_pos ⟨Int32.not_lt.mp z29, Int32.not_le.mp z33⟩) hE dk_fe.rf
      · skip
        refine w_il3 (n := 21) dX12_sheet_20 rfl ?_
        refine w_bipush (n := 23) (nI 40) dX12_sheet_21 (by decide) rfl ?_
        refine w_ic_le (n := 26) 28 dX12_sheet_23 (by decide) rfl (fun z23 => ?_) (fun z23 => ?_)
        · skip
          refine w_il2 (n := 29) dX12_sheet_28 rfl ?_
          refine w_if_lt (n := 32) 39 dX12_sheet_29 (by decide) rfl (fun z29 => ?_) (fun z29 => ?_)
          · skip
            have hs := tN_of (n := 3) (by decide) t1.1 t1.2
            refine w_al0 (n := 40) dX12_sheet_39 rfl ?_
            refine g_R (n := 43) f_X12_35_12 pl_104 rf_104_22 dX12_sheet_40 rfl ?_
            refine w_il1 (n := 44) dX12_sheet_43 rfl ?_
            refine w_il2 (n := 45) dX12_sheet_44 rfl ?_
            refine i_iast (n := 46) pl_113 (j := tN s) hs.1 (by omega) (by decide) dX12_sheet_45 rfl ?_
            refine w_al0 (n := 47) dX12_sheet_46 rfl ?_
            refine g_R (n := 50) f_X12_38_12 pl_104 rf_104_23 dX12_sheet_47 rfl ?_
            refine w_il1 (n := 51) dX12_sheet_50 rfl ?_
            refine w_il2 (n := 52) dX12_sheet_51 rfl ?_
            refine w_if_ge (n := 55) 59 dX12_sheet_52 (by decide) rfl (fun z52 => ?_) (fun z52 => ?_)
            · skip
              refine w_il3 (n := 60) dX12_sheet_59 rfl ?_
              refine i_iast (n := 61) pl_114 (j := tN s) hs.1 (by omega) (by decide) dX12_sheet_60 rfl ?_
              refine w_iconst (n := 62) (nI 0) dX12_sheet_61 (by decide) rfl ?_
              refine w_is4 (n := 64) dX12_sheet_62 rfl rfl (by decide) ?_
              have hq2 := dk_finE hq (by unfold ef_sheet; rw [if_pos ⟨t1, t10, by first | exact fun z => absurd z.1 (Int32.not_le.mpr z17) | exact fun z => absurd z.2 (Int32.not_lt.mpr z23)⟩]; exact if_neg (by first | exact fun z => absurd z.1 (Int32.not_le.mpr z29) | exact fun z => absurd z.2 (Int32.not_lt.mpr z33))) (hE.sheet (s := tN s) (by omega) (t := t) (n := n) rfl) (fun q k hn => by show (dk_put (dk_put M 113 _ _) 114 _ _).1 q k = _; rw [dk_put_k (fun z => hn (by unfold rX; omega)), dk_put_k (fun z => hn (by unfold rX; omega))])
              first | rw [if_pos z52] at hq2 | rw [if_neg (Int32.not_lt.mpr z52)] at hq2 | rw [if_pos (Int32.not_le.mp z52)] at hq2
              have hx := hs.1
              generalize hx3 : tN s = s0 at *
              subst hx
              have k1 := r_shL (d := d + 2) (s := s0) (by omega) (t := t) (n0 := n) hq2 41 0 (by omega) (by omega)
              rw [zL_0] at k1
              exact k1
            · skip
              refine w_iconst (n := 56) (nI 0) dX12_sheet_55 (by decide) rfl ?_
              refine w_goto 60 dX12_sheet_56 (by decide) ?_
              refine i_iast (n := 61) pl_114 (j := tN s) hs.1 (by omega) (by decide) dX12_sheet_60 rfl ?_
              refine w_iconst (n := 62) (nI 0) dX12_sheet_61 (by decide) rfl ?_
              refine w_is4 (n := 64) dX12_sheet_62 rfl rfl (by decide) ?_
              have hq2 := dk_finE hq (by unfold ef_sheet; rw [if_pos ⟨t1, t10, by first | exact fun z => absurd z.1 (Int32.not_le.mpr z17) | exact fun z => absurd z.2 (Int32.not_lt.mpr z23)⟩]; exact if_neg (by first | exact fun z => absurd z.1 (Int32.not_le.mpr z29) | exact fun z => absurd z.2 (Int32.not_lt.mpr z33))) (hE.sheet (s := tN s) (by omega) (t := t) (n := n) rfl) (fun q k hn => by show (dk_put (dk_put M 113 _ _) 114 _ _).1 q k = _; rw [dk_put_k (fun z => hn (by unfold rX; omega)), dk_put_k (fun z => hn (by unfold rX; omega))])
              first | rw [if_pos z52] at hq2 | rw [if_neg (Int32.not_lt.mpr z52)] at hq2 | rw [if_pos (Int32.not_le.mp z52)] at hq2
              have hx := hs.1
              generalize hx3 : tN s = s0 at *
              subst hx
              have k1 := r_shL (d := d + 2) (s := s0) (by omega) (t := t) (n0 := n) hq2 41 0 (by omega) (by omega)
              rw [zL_0] at k1
              exact k1
          · skip
            refine w_il3 (n := 33) dX12_sheet_32 rfl ?_
            refine w_if_ge (n := 36) 39 dX12_sheet_33 (by decide) rfl (fun z33 => ?_) (fun z33 => ?_)
            · skip
              have hs := tN_of (n := 3) (by decide) t1.1 t1.2
              refine w_al0 (n := 40) dX12_sheet_39 rfl ?_
              refine g_R (n := 43) f_X12_35_12 pl_104 rf_104_22 dX12_sheet_40 rfl ?_
              refine w_il1 (n := 44) dX12_sheet_43 rfl ?_
              refine w_il2 (n := 45) dX12_sheet_44 rfl ?_
              refine i_iast (n := 46) pl_113 (j := tN s) hs.1 (by omega) (by decide) dX12_sheet_45 rfl ?_
              refine w_al0 (n := 47) dX12_sheet_46 rfl ?_
              refine g_R (n := 50) f_X12_38_12 pl_104 rf_104_23 dX12_sheet_47 rfl ?_
              refine w_il1 (n := 51) dX12_sheet_50 rfl ?_
              refine w_il2 (n := 52) dX12_sheet_51 rfl ?_
              refine w_if_ge (n := 55) 59 dX12_sheet_52 (by decide) rfl (fun z52 => ?_) (fun z52 => ?_)
              · skip
                refine w_il3 (n := 60) dX12_sheet_59 rfl ?_
                refine i_iast (n := 61) pl_114 (j := tN s) hs.1 (by omega) (by decide) dX12_sheet_60 rfl ?_
                refine w_iconst (n := 62) (nI 0) dX12_sheet_61 (by decide) rfl ?_
                refine w_is4 (n := 64) dX12_sheet_62 rfl rfl (by decide) ?_
                have hq2 := dk_finE hq (by unfold ef_sheet; rw [if_pos ⟨t1, t10, by first | exact fun z => absurd z.1 (Int32.not_le.mpr z17) | exact fun z => absurd z.2 (Int32.not_lt.mpr z23)⟩]; exact if_neg (by first | exact fun z => absurd z.1 (Int32.not_le.mpr z29) | exact fun z => absurd z.2 (Int32.not_lt.mpr z33))) (hE.sheet (s := tN s) (by omega) (t := t) (n := n) rfl) (fun q k hn => by show (dk_put (dk_put M 113 _ _) 114 _ _).1 q k = _; rw [dk_put_k (fun z => hn (by unfold rX; omega)), dk_put_k (fun z => hn (by unfold rX; omega))])
                first | rw [if_pos z52] at hq2 | rw [if_neg (Int32.not_lt.mpr z52)] at hq2 | rw [if_pos (Int32.not_le.mp z52)] at hq2
                have hx := hs.1
                generalize hx3 : tN s = s0 at *
                subst hx
                have k1 := r_shL (d := d + 2) (s := s0) (by omega) (t := t) (n0 := n) hq2 41 0 (by omega) (by omega)
                rw [zL_0] at k1
                exact k1
              · skip
                refine w_iconst (n := 56) (nI 0) dX12_sheet_55 (by decide) rfl ?_
                refine w_goto 60 dX12_sheet_56 (by decide) ?_
                refine i_iast (n := 61) pl_114 (j := tN s) hs.1 (by omega) (by decide) dX12_sheet_60 rfl ?_
                refine w_iconst (n := 62) (nI 0) dX12_sheet_61 (by decide) rfl ?_
                refine w_is4 (n := 64) dX12_sheet_62 rfl rfl (by decide) ?_
                have hq2 := dk_finE hq (by unfold ef_sheet; rw [if_pos ⟨t1, t10, by first | exact fun z => absurd z.1 (Int32.not_le.mpr z17) | exact fun z => absurd z.2 (Int32.not_lt.mpr z23)⟩]; exact if_neg (by first | exact fun z => absurd z.1 (Int32.not_le.mpr z29) | exact fun z => absurd z.2 (Int32.not_lt.mpr z33))) (hE.sheet (s := tN s) (by omega) (t := t) (n := n) rfl) (fun q k hn => by show (dk_put (dk_put M 113 _ _) 114 _ _).1 q k = _; rw [dk_put_k (fun z => hn (by unfold rX; omega)), dk_put_k (fun z => hn (by unfold rX; omega))])
                first | rw [if_pos z52] at hq2 | rw [if_neg (Int32.not_lt.mpr z52)] at hq2 | rw [if_pos (Int32.not_le.mp z52)] at hq2
                have hx := hs.1
                generalize hx3 : tN s = s0 at *
                subst hx
                have k1 := r_shL (d := d + 2) (s := s0) (by omega) (t := t) (n0 := n) hq2 41 0 (by omega) (by omega)
                rw [zL_0] at k1
                exact k1
            · skip
              refine w_bipush (n := 38) (-14) dX12_sheet_36 (by decide) rfl ?_
              refine w_retI dX12_sheet_38 rfl ?_
              exact dk_finE hq (by unfold ef_sheet; rw [if_pos ⟨t1, t10, by first | exact fun z => absurd z.1 (Int32.not_le.mpr z17) | exact fun z => absurd z.2 (Int32.not_lt.mpr z23)⟩]; exact if_pos ⟨Int32.not_lt.mp z29, Int32.not_le.mp z33⟩) hE dk_fe.rf
        · skip
          refine w_iconst (n := 27) (-1) dX12_sheet_26 (by decide) rfl ?_
          refine w_retI dX12_sheet_27 rfl ?_
          exact dk_finE hq (if_neg (fun z => by first | exact t1 z.1 | exact t10 z.2.1 | exact z.2.2 ⟨Int32.not_lt.mp z17, Int32.not_le.mp z23⟩)) hE dk_fe.rf
    · skip
      refine w_if_eq (n := 16) 26 dX12_sheet_13 (by decide) rfl (fun _ => ?_) (fun h => absurd (by decide) h)
      refine w_iconst (n := 27) (-1) dX12_sheet_26 (by decide) rfl ?_
      refine w_retI dX12_sheet_27 rfl ?_
      exact dk_finE hq (if_neg (fun z => by first | exact t1 z.1 | exact t10 z.2.1 | exact z.2.2 ⟨Int32.not_lt.mp z17, Int32.not_le.mp z23⟩)) hE dk_fe.rf
  · skip
    refine w_if_eq (n := 7) 26 dX12_sheet_4 (by decide) rfl (fun _ => ?_) (fun h => absurd (by decide) h)
    refine w_iconst (n := 27) (-1) dX12_sheet_26 (by decide) rfl ?_
    refine w_retI dX12_sheet_27 rfl ?_
    exact dk_finE hq (if_neg (fun z => by first | exact t1 z.1 | exact t10 z.2.1 | exact z.2.2 ⟨Int32.not_lt.mp z17, Int32.not_le.mp z23⟩)) hE dk_fe.rf

set_option maxRecDepth 20000 in
theorem R_write {d : Nat} {M : dk_Mem} {Q : Option Value → dk_Mem → Prop} {E : sg_E} (hE : rE E M) (hI : eI E) {s i v : Int32} (hq : ∀ M2, rE (ef_write E s i v).2 M2 → dk_fe rX M M2 → Q (some (.int (ef_write E s i v).1)) M2) : dk_Call (d + 2) mX12_write [.ref 104, .int s, .int i, .int v] M Q := by
  refine dk_enter [some (.ref 104), some (.int s), some (.int i), some (.int v), none] (by decide) (fun _ => rfl) (fun _ => Nat.le_of_ble_eq_true rfl) ?_
  refine w_il1 (n := 1) dX12_write_0 rfl ?_
  refine w_cS1 (n := 4) s0_X12_isFour k_X12_281 (Nat.le_of_ble_eq_true rfl) dX12_write_1 rfl (r_isFour (fun t1 => ?_) (fun t1 => ?_))
  · skip
    refine w_if_ne (n := 7) 9 dX12_write_4 (by decide) rfl (fun _ => ?_) (fun h => absurd h (by decide))
    have hs := tN_of (n := 3) (by decide) t1.1 t1.2
    refine w_al0 (n := 10) dX12_write_9 rfl ?_
    refine g_R (n := 13) f_X12_35_12 pl_104 rf_104_22 dX12_write_10 rfl ?_
    refine w_il1 (n := 14) dX12_write_13 rfl ?_
    refine i_iald (n := 15) pl_113 (j := tN s) hs.1 (by omega) (by decide) (hE.1 _ _ _ (eL_113 (by omega))) dX12_write_14 rfl ?_
    refine w_if_ge (n := 18) 21 dX12_write_15 (by decide) rfl (fun z15 => ?_) (fun z15 => ?_)
    · skip
      refine w_il2 (n := 22) dX12_write_21 rfl ?_
      refine w_iconst (n := 23) (nI 0) dX12_write_22 (by decide) rfl ?_
      refine w_al0 (n := 24) dX12_write_23 rfl ?_
      refine g_R (n := 27) f_X12_38_12 pl_104 rf_104_23 dX12_write_24 rfl ?_
      refine w_il1 (n := 28) dX12_write_27 rfl ?_
      refine i_iald (n := 29) pl_114 (j := tN s) hs.1 (by omega) (by decide) (hE.1 _ _ _ (eL_114 (by omega))) dX12_write_28 rfl ?_
      refine w_iconst (n := 30) (nI 1) dX12_write_29 (by decide) rfl ?_
      refine w_isub (n := 31) dX12_write_30 rfl ?_
      refine w_cS3 (n := 34) s0_X12_in k_X12_61 (Nat.le_of_ble_eq_true rfl) dX12_write_31 rfl (r_in (fun t31 => ?_) (fun t31 => ?_))
      · skip
        refine w_if_ne (n := 37) 40 dX12_write_34 (by decide) rfl (fun _ => ?_) (fun h => absurd h (by decide))
        have hi := (hI.2.1 (tN s) (by omega)).2.1.in (by decide) t31.1 t31.2
        have ix : nI 40 * s + i = nI (40 * tN s + tN i) := by
          have e1 := hs.1
          have e2 := hi.1
          generalize tN s = a at *
          generalize tN i = b at *
          rw [e1, e2, pk_mul, nI_add]
        refine w_al0 (n := 41) dX12_write_40 rfl ?_
        refine g_R (n := 44) f_X12_35_12 pl_104 rf_104_22 dX12_write_41 rfl ?_
        refine w_il1 (n := 45) dX12_write_44 rfl ?_
        refine i_iald (n := 46) pl_113 (j := tN s) hs.1 (by omega) (by decide) (hE.1 _ _ _ (eL_113 (by omega))) dX12_write_45 rfl ?_
        refine w_is4 (n := 48) dX12_write_46 rfl rfl (by decide) ?_
        refine w_al0 (n := 49) dX12_write_48 rfl ?_
        refine g_R (n := 52) f_X12_41_12 pl_104 rf_104_24 dX12_write_49 rfl ?_
        refine w_bipush (n := 54) (nI 40) dX12_write_52 (by decide) rfl ?_
        refine w_il1 (n := 55) dX12_write_54 rfl ?_
        refine w_imul (n := 56) dX12_write_55 rfl ?_
        refine w_il2 (n := 57) dX12_write_56 rfl ?_
        refine w_iadd (n := 58) dX12_write_57 rfl ?_
        refine w_il4 (n := 60) dX12_write_58 rfl ?_
        refine w_if_ne (n := 63) 69 dX12_write_60 (by decide) rfl (fun z60 => ?_) (fun z60 => ?_)
        · skip
          refine w_il4 (n := 71) dX12_write_69 rfl ?_
          refine w_iconst (n := 72) (nI 1) dX12_write_71 (by decide) rfl ?_
          refine w_ic_ne (n := 75) 81 dX12_write_72 (by decide) rfl (fun z72 => ?_) (fun z72 => ?_)
          · skip
            refine w_il4 (n := 83) dX12_write_81 rfl ?_
            refine w_iconst (n := 84) (nI 4) dX12_write_83 (by decide) rfl ?_
            refine w_ic_ne (n := 87) 99 dX12_write_84 (by decide) rfl (fun z84 => ?_) (fun z84 => ?_)
            · skip
              refine w_il3 (n := 100) dX12_write_99 rfl ?_
              refine w_i2l (n := 101) dX12_write_100 rfl ?_
              refine i_last (n := 102) pl_115 (j := 40 * tN s + tN i) ix (by omega) (by decide) dX12_write_101 rfl ?_
              refine w_iconst (n := 103) (nI 1) dX12_write_102 (by decide) rfl ?_
              refine w_retI dX12_write_103 rfl ?_
              exact dk_finE hq (by unfold ef_write; rw [if_pos t1, if_neg (Int32.not_lt.mpr z15)]; exact if_pos t31) (hE.putL (by unfold eW; first | (rw [if_pos z60]) | (rw [if_neg z60, if_pos z72]) | (rw [if_neg z60, if_neg z72, if_pos z84, if_pos z88]; rfl) | (rw [if_neg z60, if_neg z72, if_pos z84, if_neg z88]; rfl) | (rw [if_neg z60, if_neg z72, if_neg z84]))) (fun _ _ _ => rfl)
            · skip
              refine w_il3 (n := 88) dX12_write_87 rfl ?_
              refine w_if_eq (n := 91) 95 dX12_write_88 (by decide) rfl (fun z88 => ?_) (fun z88 => ?_)
              · skip
                refine w_lconst (n := 96) 0 dX12_write_95 (by decide) rfl ?_
                refine w_goto 101 dX12_write_96 (by decide) ?_
                refine i_last (n := 102) pl_115 (j := 40 * tN s + tN i) ix (by omega) (by decide) dX12_write_101 rfl ?_
                refine w_iconst (n := 103) (nI 1) dX12_write_102 (by decide) rfl ?_
                refine w_retI dX12_write_103 rfl ?_
                exact dk_finE hq (by unfold ef_write; rw [if_pos t1, if_neg (Int32.not_lt.mpr z15)]; exact if_pos t31) (hE.putL (by unfold eW; first | (rw [if_pos z60]) | (rw [if_neg z60, if_pos z72]) | (rw [if_neg z60, if_neg z72, if_pos z84, if_pos z88]; rfl) | (rw [if_neg z60, if_neg z72, if_pos z84, if_neg z88]; rfl) | (rw [if_neg z60, if_neg z72, if_neg z84]))) (fun _ _ _ => rfl)
              · skip
                refine w_lconst (n := 92) 1 dX12_write_91 (by decide) rfl ?_
                refine w_goto 101 dX12_write_92 (by decide) ?_
                refine i_last (n := 102) pl_115 (j := 40 * tN s + tN i) ix (by omega) (by decide) dX12_write_101 rfl ?_
                refine w_iconst (n := 103) (nI 1) dX12_write_102 (by decide) rfl ?_
                refine w_retI dX12_write_103 rfl ?_
                exact dk_finE hq (by unfold ef_write; rw [if_pos t1, if_neg (Int32.not_lt.mpr z15)]; exact if_pos t31) (hE.putL (by unfold eW; first | (rw [if_pos z60]) | (rw [if_neg z60, if_pos z72]) | (rw [if_neg z60, if_neg z72, if_pos z84, if_pos z88]; rfl) | (rw [if_neg z60, if_neg z72, if_pos z84, if_neg z88]; rfl) | (rw [if_neg z60, if_neg z72, if_neg z84]))) (fun _ _ _ => rfl)
          · skip
            refine w_il3 (n := 76) dX12_write_75 rfl ?_
            refine w_i2s (n := 77) dX12_write_76 rfl ?_
            refine w_i2l (n := 78) dX12_write_77 rfl ?_
            refine w_goto 101 dX12_write_78 (by decide) ?_
            refine i_last (n := 102) pl_115 (j := 40 * tN s + tN i) ix (by omega) (by decide) dX12_write_101 rfl ?_
            refine w_iconst (n := 103) (nI 1) dX12_write_102 (by decide) rfl ?_
            refine w_retI dX12_write_103 rfl ?_
            exact dk_finE hq (by unfold ef_write; rw [if_pos t1, if_neg (Int32.not_lt.mpr z15)]; exact if_pos t31) (hE.putL (by unfold eW; first | (rw [if_pos z60]) | (rw [if_neg z60, if_pos z72]) | (rw [if_neg z60, if_neg z72, if_pos z84, if_pos z88]; rfl) | (rw [if_neg z60, if_neg z72, if_pos z84, if_neg z88]; rfl) | (rw [if_neg z60, if_neg z72, if_neg z84]))) (fun _ _ _ => rfl)
        · skip
          refine w_il3 (n := 64) dX12_write_63 rfl ?_
          refine w_i2b (n := 65) dX12_write_64 rfl ?_
          refine w_i2l (n := 66) dX12_write_65 rfl ?_
          refine w_goto 101 dX12_write_66 (by decide) ?_
          refine i_last (n := 102) pl_115 (j := 40 * tN s + tN i) ix (by omega) (by decide) dX12_write_101 rfl ?_
          refine w_iconst (n := 103) (nI 1) dX12_write_102 (by decide) rfl ?_
          refine w_retI dX12_write_103 rfl ?_
          exact dk_finE hq (by unfold ef_write; rw [if_pos t1, if_neg (Int32.not_lt.mpr z15)]; exact if_pos t31) (hE.putL (by unfold eW; first | (rw [if_pos z60]) | (rw [if_neg z60, if_pos z72]) | (rw [if_neg z60, if_neg z72, if_pos z84, if_pos z88]; rfl) | (rw [if_neg z60, if_neg z72, if_pos z84, if_neg z88]; rfl) | (rw [if_neg z60, if_neg z72, if_neg z84]))) (fun _ _ _ => rfl)
      · skip
        refine w_if_ne (n := 37) 40 dX12_write_34 (by decide) rfl (fun h => absurd h (by decide)) (fun _ => ?_)
        refine w_bipush (n := 39) (-12) dX12_write_37 (by decide) rfl ?_
        refine w_retI dX12_write_39 rfl ?_
        exact dk_finE hq (by unfold ef_write; rw [if_pos t1, if_neg (Int32.not_lt.mpr z15)]; exact if_neg t31) hE dk_fe.rf
    · skip
      refine w_bipush (n := 20) (-11) dX12_write_18 (by decide) rfl ?_
      refine w_retI dX12_write_20 rfl ?_
      exact dk_finE hq (by unfold ef_write; rw [if_pos t1]; exact if_pos (Int32.not_le.mp z15)) hE dk_fe.rf
  · skip
    refine w_if_ne (n := 7) 9 dX12_write_4 (by decide) rfl (fun h => absurd h (by decide)) (fun _ => ?_)
    refine w_iconst (n := 8) (-1) dX12_write_7 (by decide) rfl ?_
    refine w_retI dX12_write_8 rfl ?_
    exact dk_finE hq (if_neg t1) hE dk_fe.rf

set_option maxRecDepth 20000 in
theorem R_item {d : Nat} {M : dk_Mem} {Q : Option Value → dk_Mem → Prop} {E : sg_E} (hE : rE E M) (hI : eI E) {s t i : Int32} (hq : ∀ M2, rE (ef_item E s t i).2 M2 → dk_fe rX M M2 → Q (some (.int (ef_item E s t i).1)) M2) : dk_Call (d + 2) mX12_item [.ref 104, .int s, .int t, .int i] M Q := by
  refine dk_enter [some (.ref 104), some (.int s), some (.int t), some (.int i)] (by decide) (fun _ => rfl) (fun _ => Nat.le_of_ble_eq_true rfl) ?_
  refine w_il1 (n := 1) dX12_item_0 rfl ?_
  refine w_cS1 (n := 4) s0_X12_isFour k_X12_281 (Nat.le_of_ble_eq_true rfl) dX12_item_1 rfl (r_isFour (fun t1 => ?_) (fun t1 => ?_))
  · skip
    refine w_if_eq (n := 7) 16 dX12_item_4 (by decide) rfl (fun h => absurd h (by decide)) (fun _ => ?_)
    refine w_il2 (n := 8) dX12_item_7 rfl ?_
    refine w_iconst (n := 9) (nI 0) dX12_item_8 (by decide) rfl ?_
    refine w_iconst (n := 10) (nI 4) dX12_item_9 (by decide) rfl ?_
    refine w_cS3 (n := 13) s0_X12_in k_X12_61 (Nat.le_of_ble_eq_true rfl) dX12_item_10 rfl (r_in (fun t10 => ?_) (fun t10 => ?_))
    · skip
      refine w_if_ne (n := 16) 18 dX12_item_13 (by decide) rfl (fun _ => ?_) (fun h => absurd h (by decide))
      have hs := tN_of (n := 3) (by decide) t1.1 t1.2
      refine w_al0 (n := 19) dX12_item_18 rfl ?_
      refine g_R (n := 22) f_X12_35_12 pl_104 rf_104_22 dX12_item_19 rfl ?_
      refine w_il1 (n := 23) dX12_item_22 rfl ?_
      refine i_iald (n := 24) pl_113 (j := tN s) hs.1 (by omega) (by decide) (hE.1 _ _ _ (eL_113 (by omega))) dX12_item_23 rfl ?_
      refine w_if_ge (n := 27) 30 dX12_item_24 (by decide) rfl (fun z24 => ?_) (fun z24 => ?_)
      · skip
        refine w_al0 (n := 31) dX12_item_30 rfl ?_
        refine g_R (n := 34) f_X12_35_12 pl_104 rf_104_22 dX12_item_31 rfl ?_
        refine w_il1 (n := 35) dX12_item_34 rfl ?_
        refine i_iald (n := 36) pl_113 (j := tN s) hs.1 (by omega) (by decide) (hE.1 _ _ _ (eL_113 (by omega))) dX12_item_35 rfl ?_
        refine w_il2 (n := 37) dX12_item_36 rfl ?_
        refine w_ic_eq (n := 40) 43 dX12_item_37 (by decide) rfl (fun z37 => ?_) (fun z37 => ?_)
        · skip
          refine w_il3 (n := 44) dX12_item_43 rfl ?_
          refine w_iconst (n := 45) (nI 0) dX12_item_44 (by decide) rfl ?_
          refine w_al0 (n := 46) dX12_item_45 rfl ?_
          refine g_R (n := 49) f_X12_38_12 pl_104 rf_104_23 dX12_item_46 rfl ?_
          refine w_il1 (n := 50) dX12_item_49 rfl ?_
          refine i_iald (n := 51) pl_114 (j := tN s) hs.1 (by omega) (by decide) (hE.1 _ _ _ (eL_114 (by omega))) dX12_item_50 rfl ?_
          refine w_iconst (n := 52) (nI 1) dX12_item_51 (by decide) rfl ?_
          refine w_isub (n := 53) dX12_item_52 rfl ?_
          refine w_cS3 (n := 56) s0_X12_in k_X12_61 (Nat.le_of_ble_eq_true rfl) dX12_item_53 rfl (r_in (fun t53 => ?_) (fun t53 => ?_))
          · skip
            refine w_if_eq (n := 59) 74 dX12_item_56 (by decide) rfl (fun h => absurd h (by decide)) (fun _ => ?_)
            have hi := (hI.2.1 (tN s) (by omega)).2.1.in (by decide) t53.1 t53.2
            have ix : nI 40 * s + i = nI (40 * tN s + tN i) := by
              have e1 := hs.1
              have e2 := hi.1
              generalize tN s = a at *
              generalize tN i = b at *
              rw [e1, e2, pk_mul, nI_add]
            refine w_al0 (n := 60) dX12_item_59 rfl ?_
            refine g_R (n := 63) f_X12_41_12 pl_104 rf_104_24 dX12_item_60 rfl ?_
            refine w_bipush (n := 65) (nI 40) dX12_item_63 (by decide) rfl ?_
            refine w_il1 (n := 66) dX12_item_65 rfl ?_
            refine w_imul (n := 67) dX12_item_66 rfl ?_
            refine w_il3 (n := 68) dX12_item_67 rfl ?_
            refine w_iadd (n := 69) dX12_item_68 rfl ?_
            refine i_lald (n := 70) pl_115 (j := 40 * tN s + tN i) ix (by omega) (by decide) (hE.2 _ (by omega)) dX12_item_69 rfl ?_
            refine w_l2i (n := 71) dX12_item_70 rfl ?_
            refine w_goto 76 dX12_item_71 (by decide) ?_
            refine w_retI dX12_item_76 rfl ?_
            rw [Int32.toInt32_toInt64]
            exact dk_finE hq (congrArg (fun y => (y, E)) (by rw [if_pos ⟨t1, t10⟩, if_neg (Int32.not_lt.mpr z24), if_pos z37]; exact if_pos t53)) hE dk_fe.rf
          · skip
            refine w_if_eq (n := 59) 74 dX12_item_56 (by decide) rfl (fun _ => ?_) (fun h => absurd (by decide) h)
            refine w_bipush (n := 76) (-12) dX12_item_74 (by decide) rfl ?_
            refine w_retI dX12_item_76 rfl ?_
            exact dk_finE hq (congrArg (fun y => (y, E)) (by rw [if_pos ⟨t1, t10⟩, if_neg (Int32.not_lt.mpr z24), if_pos z37]; exact if_neg t53)) hE dk_fe.rf
        · skip
          refine w_bipush (n := 42) (-13) dX12_item_40 (by decide) rfl ?_
          refine w_retI dX12_item_42 rfl ?_
          exact dk_finE hq (congrArg (fun y => (y, E)) (by rw [if_pos ⟨t1, t10⟩, if_neg (Int32.not_lt.mpr z24)]; exact if_neg z37)) hE dk_fe.rf
      · skip
        refine w_bipush (n := 29) (-11) dX12_item_27 (by decide) rfl ?_
        refine w_retI dX12_item_29 rfl ?_
        exact dk_finE hq (congrArg (fun y => (y, E)) (by rw [if_pos ⟨t1, t10⟩]; exact if_pos (Int32.not_le.mp z24))) hE dk_fe.rf
    · skip
      refine w_if_ne (n := 16) 18 dX12_item_13 (by decide) rfl (fun h => absurd h (by decide)) (fun _ => ?_)
      refine w_iconst (n := 17) (-1) dX12_item_16 (by decide) rfl ?_
      refine w_retI dX12_item_17 rfl ?_
      exact dk_finE hq (congrArg (fun y => (y, E)) (if_neg (fun z => by first | exact t1 z.1 | exact t10 z.2))) hE dk_fe.rf
  · skip
    refine w_if_eq (n := 7) 16 dX12_item_4 (by decide) rfl (fun _ => ?_) (fun h => absurd (by decide) h)
    refine w_iconst (n := 17) (-1) dX12_item_16 (by decide) rfl ?_
    refine w_retI dX12_item_17 rfl ?_
    exact dk_finE hq (congrArg (fun y => (y, E)) (if_neg (fun z => by first | exact t1 z.1 | exact t10 z.2))) hE dk_fe.rf
