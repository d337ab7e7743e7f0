/-! ===== the fallen stay fallen; plans for line and bars as trees ===== -/
theorem sg_falls_st {s : Nat → Nat} {h j : Nat} (hj : s (39 + 5 * j) = 1) : sg_falls s h (39 + 5 * j) = 1 := by
  unfold sg_falls
  rw [sg_fl_o (by omega)]
  by_cases e : 39 + 5 * j = 39 + 5 * h
  · rw [e, sg_up_s]
  · rw [sg_up_n e]; exact hj
theorem sg_tells_st {w : sg_R} {s : Nat → Nat} {h j : Nat} (hj : s (39 + 5 * j) = 1) : (sg_tells w s h).1 (39 + 5 * j) = 1 := by
  by_cases c : sg_does w s h = 2
  · rw [sg_tells_2 c]
    show sg_up s (36 + 5 * h) _ (39 + 5 * j) = 1
    rw [sg_up_n (by omega)]; exact hj
  · by_cases p : sg_does w s h = 0 ∧ 0 < sg_pays s h
    · rw [sg_tells_f p.1 p.2]; exact sg_falls_st hj
    · rw [sg_tells_n c p]; exact hj
theorem sg_told_st {w : sg_R} {s : Nat → Nat} {t : Option Nat} {j : Nat} (hj : s (39 + 5 * j) = 1) : (sg_told w s t).1 (39 + 5 * j) = 1 := by
  cases t with
  | none => exact hj
  | some h =>
    by_cases c : s (39 + 5 * h) = 0
    · rw [show sg_told w s (some h) = sg_tells w s h from if_pos c]; exact sg_tells_st hj
    · rw [show sg_told w s (some h) = (s, 0) from if_neg c]; exact hj
theorem sg_l2_st {s : Nat → Nat} {set j : Nat} (hj : s (39 + 5 * j) = 1) : ∀ n, (sg_l2 s set n).1 (39 + 5 * j) = 1
  | 0 => hj
  | n + 1 => by
    have ih := sg_l2_st (set := set) hj n
    rw [sg_l2]
    split
    · exact sg_falls_st ih
    · exact ih
theorem sg_goes_st {w : sg_R} {s : Nat → Nat} {t : Option Nat} {j : Nat} (hj : s (39 + 5 * j) = 1) : (sg_goes w s t).1 (39 + 5 * j) = 1 := by
  show sg_up (sg_l3 (sg_mid w s t).1 (s 4)) 1 (s 1 + 1) (39 + 5 * j) = 1
  rw [sg_up_n (by omega), sg_l3_o (by omega)]
  exact sg_l2_st (sg_told_st hj) _
theorem sg_set_ge {σ : Nat → Nat} (o : sg_ok σ) {c i : Nat} (hc : c ≤ 6) (hi : c ≤ i) : (sg_set σ c).testBit i = false := Nat.testBit_lt_two_pow (Nat.lt_of_lt_of_le (sg_set_lt o c hc) (Nat.pow_le_pow_right (by decide) hi))
theorem sg_set_st {w : sg_R} {σ : Nat → Nat} {t : Option Nat} (o : sg_ok σ) (og : sg_ok (sg_goes w σ t).1) {c : Nat} (hc : c ≤ 6) : sg_set σ c ||| sg_set (sg_goes w σ t).1 c = sg_set (sg_goes w σ t).1 c := by
  apply Nat.eq_of_testBit_eq
  intro i
  rw [Nat.testBit_or]
  by_cases hi : i < c
  · cases e : (sg_set σ c).testBit i with
    | false => rw [Bool.false_or]
    | true =>
      have h1_h := (sg_set_bit o c hi hc).mp e
      rw [(sg_set_bit og c hi hc).mpr (sg_goes_st h1_h), Bool.true_or]
  · rw [sg_set_ge o hc (by omega), Bool.false_or]
theorem sub_or {s a b : Nat} (h : a ||| b = b) (hs : s &&& a = s) : s &&& b = s := by
  apply Nat.eq_of_testBit_eq
  intro i
  have e1_h := congrArg (fun x => x.testBit i) h
  have e2_h := congrArg (fun x => x.testBit i) hs
  simp only [Nat.testBit_or, Nat.testBit_and] at e1_h e2_h ⊢
  revert e1_h e2_h
  cases s.testBit i <;> cases a.testBit i <;> cases b.testBit i <;> decide
/-! ===== all in a row, joined ===== -/
def orf (f : Nat → Nat) : Nat → Nat
  | 0 => 0
  | n + 1 => orf f n ||| f n
theorem orf_s {f : Nat → Nat} {n : Nat} : orf f (n + 1) = orf f n ||| f n := rfl
theorem orf_congr {f g : Nat → Nat} : ∀ n, (∀ i, i < n → f i = g i) → orf f n = orf g n
  | 0, _ => rfl
  | n + 1, h => by rw [orf_s, orf_s, orf_congr n (fun i hi => h i (by omega)), h n (by omega)]
theorem orf_app {f : Nat → Nat} {n : Nat} : ∀ k, orf f (n + k) = orf f n ||| orf (fun i => f (n + i)) k
  | 0 => (Nat.or_zero _).symm
  | k + 1 => by
    show orf f (n + k) ||| f (n + k) = orf f n ||| (orf (fun i => f (n + i)) k ||| f (n + k))
    rw [orf_app k, Nat.or_assoc]
theorem orf_blk {f : Nat → Nat} {N : Nat} : ∀ a, orf f (a * N) = orf (fun x => orf (fun i => f (x * N + i)) N) a
  | 0 => by rw [Nat.zero_mul]; rfl
  | a + 1 => by rw [orf_s, Nat.add_mul, Nat.one_mul, orf_app, orf_blk a]
theorem orf_mem {f : Nat → Nat} {i : Nat} : ∀ n, i < n → orf f n ||| f i = orf f n
  | 0, h => by omega
  | n + 1, h => by
    rw [orf_s, Nat.or_assoc, Nat.or_comm (f n), ← Nat.or_assoc]
    by_cases e : i = n
    · rw [e, Nat.or_assoc, Nat.or_self]
    · rw [orf_mem n (by omega)]
theorem orf_lt {f : Nat → Nat} : ∀ n, (∀ i, i < n → f i < 64) → orf f n < 64
  | 0, _ => by rw [orf]; omega
  | n + 1, h => (q_orr _ (orf_lt n (fun i hi => h i (by omega))) _ (h n (by omega))).2
theorem sg_rc_orf {K : sg_K} {m : Nat} : ∀ n, sg_rc K m n = orf (sg_e K m) n
  | 0 => rfl
  | n + 1 => by rw [sg_rc, orf_s, sg_rc_orf n]
/-- what some plan makes fall -/
def sg_rt (w : sg_R) (c : Nat) : Nat → (Nat → Nat) → Nat
  | 0, σ => sg_set σ c
  | m + 1, σ => orf (fun a => sg_rt w c m (sg_goes w σ (sg_ot a)).1) (c + 1)
theorem pl_blk {w : sg_R} {b m x i : Nat} {σ : Nat → Nat} (hb : 0 < b) (hx : x < b) (hi : i < b ^ m) : (pl_w w b (m + 1) (x * b ^ m + i) (m + 1) 0 σ).1 = (pl_w w b m i m 0 (sg_goes w σ (sg_ot x)).1).1 := by
  have h0_h : sg_ot (pl_d b (m + 1) (x * b ^ m + i) 0) = sg_ot x := by rw [pl_d_0 hb hx hi]
  rw [pl_w_1 h0_h, pl_w_s (i := i) (fun k hk => pl_d_s hb hk) m 0 _ (by omega)]
theorem orf_rt {w : sg_R} {c : Nat} : ∀ (m : Nat) (σ : Nat → Nat), orf (fun P => sg_set (pl_w w (c + 1) m P m 0 σ).1 c) ((c + 1) ^ m) = sg_rt w c m σ
  | 0, σ => Nat.zero_or _
  | m + 1, σ => by
    rw [Nat.pow_succ, Nat.mul_comm, orf_blk, sg_rt]
    refine orf_congr _ (fun x hx => ?_)
    rw [← orf_rt m]
    exact orf_congr _ (fun i hi => by rw [pl_blk (by omega) hx hi])
theorem sg_rt_ge {w : sg_R} {c : Nat} (hc : c ≤ 6) : ∀ (m : Nat) (σ : Nat → Nat), sg_ok σ → m ≤ σ 0 - σ 1 → sg_set σ c ||| sg_rt w c m σ = sg_rt w c m σ
  | 0, σ, _, _ => Nat.or_self _
  | m + 1, σ, o, h => by
    have o16_h := o.2.1
    have og : sg_ok (sg_goes w σ none).1 := o.goes (fun h e => by cases e) (by omega)
    have ih := sg_rt_ge (w := w) hc m (sg_goes w σ none).1 og (by rw [sg_goes_1, sg_goes_o (by omega) (by omega)]; omega)
    have e1_h := sg_set_st (w := w) (t := none) o og hc
    have e2_h : sg_set σ c ||| sg_rt w c m (sg_goes w σ none).1 = sg_rt w c m (sg_goes w σ none).1 := by
      rw [← ih, ← Nat.or_assoc, e1_h]
    have e3_h := orf_mem (f := fun a => sg_rt w c m (sg_goes w σ (sg_ot a)).1) (i := 0) (c + 1) (by omega)
    rw [sg_rt, ← e3_h, Nat.or_comm (sg_set σ c), Nat.or_assoc]
    congr 1
    rw [Nat.or_comm]
    exact e2_h
theorem sg_rt_64 {w : sg_R} {c : Nat} (hc : c ≤ 6) : ∀ (m : Nat) (σ : Nat → Nat), sg_ok σ → m ≤ σ 0 - σ 1 → sg_rt w c m σ < 64
  | 0, σ, o, _ => Nat.lt_of_lt_of_le (sg_set_lt o c hc) (pow6 hc)
  | m + 1, σ, o, h => by
    have o16_h := o.2.1
    rw [sg_rt]
    exact orf_lt _ (fun i hi => sg_rt_64 hc m _ (o.goes (fun h e => by have := sg_ot_lt (show i ≤ c by omega) h e; omega) (by omega)) (by rw [sg_goes_1, sg_goes_o (by omega) (by omega)]; omega))
/-! ===== the least, 99 if none ===== -/
def mnf (f : Nat → Nat) : Nat → Nat
  | 0 => 99
  | n + 1 => min (mnf f n) (f n)
theorem mnf_s {f : Nat → Nat} {n : Nat} : mnf f (n + 1) = min (mnf f n) (f n) := rfl
theorem mnf_le {f : Nat → Nat} : ∀ n, mnf f n ≤ 99
  | 0 => Nat.le_refl _
  | n + 1 => by rw [mnf_s]; have := mnf_le (f := f) n; omega
theorem mnf_congr {f g : Nat → Nat} : ∀ n, (∀ i, i < n → min 99 (f i) = min 99 (g i)) → mnf f n = mnf g n
  | 0, _ => rfl
  | n + 1, h => by
    have h1_h := h n (by omega)
    have h2_h := mnf_le (f := g) n
    rw [mnf_s, mnf_s, mnf_congr n (fun i hi => h i (by omega))]
    omega
theorem mnf_app {f : Nat → Nat} {n : Nat} : ∀ k, mnf f (n + k) = min (mnf f n) (mnf (fun i => f (n + i)) k)
  | 0 => by have := mnf_le (f := f) n; show mnf f n = min (mnf f n) 99; omega
  | k + 1 => by
    show min (mnf f (n + k)) (f (n + k)) = min (mnf f n) (min (mnf (fun i => f (n + i)) k) (f (n + k)))
    rw [mnf_app k]; omega
theorem mnf_blk {f : Nat → Nat} {N : Nat} : ∀ a, mnf f (a * N) = mnf (fun x => mnf (fun i => f (x * N + i)) N) a
  | 0 => by rw [Nat.zero_mul]; rfl
  | a + 1 => by rw [mnf_s, Nat.add_mul, Nat.one_mul, mnf_app, mnf_blk a]
theorem mnf_plus {f : Nat → Nat} {x : Nat} : ∀ n, mnf (fun i => x + f i) n = min 99 (x + mnf f n)
  | 0 => by show 99 = min 99 (x + 99); omega
  | n + 1 => by rw [mnf_s, mnf_s, mnf_plus n]; omega
theorem mnf_mem {f : Nat → Nat} {i : Nat} : ∀ n, i < n → mnf f n ≤ f i
  | 0, h => by omega
  | n + 1, h => by
    rw [mnf_s]
    by_cases e : i = n
    · subst e; omega
    · have := mnf_mem (f := f) (i := i) n (by omega); omega
theorem mnf_anti {f : Nat → Nat} {n : Nat} : ∀ k, mnf f (n + k) ≤ mnf f n
  | 0 => Nat.le_refl _
  | k + 1 => by show min (mnf f (n + k)) (f (n + k)) ≤ _; have := mnf_anti (f := f) (n := n) k; omega
def sg_1 (a : Nat) : Nat := if 0 < a then 1 else 0
/-- the fewest acts behind which all of s have fallen -/
def sg_ft (w : sg_R) (c s : Nat) : Nat → (Nat → Nat) → Nat
  | 0, σ => if s &&& sg_set σ c = s then 0 else 99
  | m + 1, σ => mnf (fun a => sg_1 a + sg_ft w c s m (sg_goes w σ (sg_ot a)).1) (c + 1)
theorem pl_a_s {b m P i : Nat} (hd : ∀ k, k < m → pl_d b (m + 1) P (k + 1) = pl_d b m i k) : ∀ k, k ≤ m → pl_a b (m + 1) P (k + 1) = sg_1 (pl_d b (m + 1) P 0) + pl_a b m i k
  | 0, _ => by show 0 + sg_1 (pl_d b (m + 1) P 0) = sg_1 (pl_d b (m + 1) P 0) + 0; omega
  | k + 1, h => by
    show pl_a b (m + 1) P (k + 1) + sg_1 (pl_d b (m + 1) P (k + 1)) = sg_1 (pl_d b (m + 1) P 0) + (pl_a b m i k + sg_1 (pl_d b m i k))
    rw [pl_a_s hd k (by omega), hd k (by omega)]
    omega
theorem mnf_ft {w : sg_R} {c s : Nat} : ∀ (m : Nat) (σ : Nat → Nat), mnf (fun P => if s &&& sg_set (pl_w w (c + 1) m P m 0 σ).1 c = s then pl_a (c + 1) m P m else 99) ((c + 1) ^ m) = sg_ft w c s m σ
  | 0, σ => by
    show min 99 (if s &&& sg_set σ c = s then 0 else 99) = if s &&& sg_set σ c = s then 0 else 99
    split <;> omega
  | m + 1, σ => by
    rw [Nat.pow_succ, Nat.mul_comm, mnf_blk, sg_ft]
    refine mnf_congr _ (fun x hx => ?_)
    have e := mnf_ft (w := w) (c := c) (s := s) m (sg_goes w σ (sg_ot x)).1
    rw [show min 99 (sg_1 x + sg_ft w c s m (sg_goes w σ (sg_ot x)).1) = mnf (fun i => sg_1 x + (if s &&& sg_set (pl_w w (c + 1) m i m 0 (sg_goes w σ (sg_ot x)).1).1 c = s then pl_a (c + 1) m i m else 99)) ((c + 1) ^ m) by rw [mnf_plus, e]]
    rw [Nat.min_eq_right (mnf_le _)]
    refine mnf_congr _ (fun i hi => ?_)
    rw [pl_blk (by omega) hx hi, pl_a_s (i := i) (fun k hk => pl_d_s (by omega) hk) m (Nat.le_refl _), pl_d_0 (by omega) hx hi]
    split <;> omega
theorem sg_ft_le {w : sg_R} {c s m : Nat} {σ : Nat → Nat} : sg_ft w c s m σ ≤ 99 := by
  cases m with
  | zero => rw [sg_ft]; split <;> omega
  | succ m => exact mnf_le _
theorem sg_ft_0 {w : sg_R} {c s : Nat} (hc : c ≤ 6) : ∀ (m : Nat) (σ : Nat → Nat), sg_ok σ → m ≤ σ 0 - σ 1 → s &&& sg_set σ c = s → sg_ft w c s m σ = 0
  | 0, σ, _, _, h => if_pos h
  | m + 1, σ, o, h, hs => by
    have o16_h := o.2.1
    have og : sg_ok (sg_goes w σ none).1 := o.goes (fun h e => by cases e) (by omega)
    have ih := sg_ft_0 (w := w) (s := s) hc m (sg_goes w σ none).1 og (by rw [sg_goes_1, sg_goes_o (by omega) (by omega)]; omega) (sub_or (sg_set_st (w := w) (t := none) o og hc) hs)
    have e3_h := mnf_mem (f := fun a => sg_1 a + sg_ft w c s m (sg_goes w σ (sg_ot a)).1) (i := 0) (c + 1) (by omega)
    have e4_h : sg_1 0 + sg_ft w c s m (sg_goes w σ (sg_ot 0)).1 = 0 := by rw [show sg_ft w c s m (sg_goes w σ (sg_ot 0)).1 = 0 from ih]; rfl
    rw [sg_ft]
    have e5_h : (fun a => sg_1 a + sg_ft w c s m (sg_goes w σ (sg_ot a)).1) 0 = 0 := e4_h
    omega
def sg_lf (K : sg_K) (m s P : Nat) : Nat := if s &&& sg_e K m P = s then pl_a (K.1 4 + 1) m P m else 99
theorem ln2_mnf {K : sg_K} {m s : Nat} (hm : m ≤ 4) : ∀ n, sg_ln2 K m s n = (if mnf (sg_lf K m s) n = 99 then none else some (mnf (sg_lf K m s) n)) ∧ (mnf (sg_lf K m s) n = 99 ∨ mnf (sg_lf K m s) n ≤ 4)
  | 0 => ⟨rfl, Or.inl rfl⟩
  | n + 1 => by
    have ih := ln2_mnf (K := K) (s := s) hm n
    have al := pl_a_le (b := K.1 4 + 1) (m := m) (P := n) m
    rw [sg_ln2, ih.1, mnf_s]
    have ih2_h := ih.2
    generalize mnf (sg_lf K m s) n = X at *
    by_cases hS : s &&& sg_e K m n = s
    · have ef : sg_lf K m s n = pl_a (K.1 4 + 1) m n m := if_pos hS
      rw [ef]
      generalize pl_a (K.1 4 + 1) m n m = A at *
      by_cases hx : X = 99
      · rw [if_pos hx, if_pos ⟨hS, Or.inl rfl⟩, if_neg (by omega)]
        exact ⟨by congr 1; omega, by omega⟩
      · rw [if_neg hx]
        by_cases hlt : A < X
        · rw [if_pos ⟨hS, Or.inr hlt⟩, if_neg (by omega)]
          exact ⟨by congr 1; omega, by omega⟩
        · rw [if_neg (fun z => by rcases z.2 with y | y; cases y; exact hlt y), if_neg (by omega)]
          exact ⟨by congr 1; omega, by omega⟩
    · have ef : sg_lf K m s n = 99 := if_neg hS
      rw [if_neg (fun z => hS z.1), ef]
      rcases ih2_h with e | e
      · rw [e]; exact ⟨rfl, Or.inl rfl⟩
      · rw [if_neg (by omega), if_neg (by omega)]
        exact ⟨by congr 1; omega, by omega⟩
theorem sg_rc_rt {K : sg_K} {n : Nat} : sg_rc K (sg_ys K.1 n) (sg_np K.1 n) = sg_rt K.2.1 (K.1 4) (sg_ys K.1 n) K.1 := by
  rw [sg_rc_orf]
  exact orf_rt _ _
theorem sg_ln2_ft {K : sg_K} {n s : Nat} (hn : sg_ys K.1 n ≤ 4) : on3_h (sg_ln2 K (sg_ys K.1 n) s (sg_np K.1 n)) = (if sg_ft K.2.1 (K.1 4) s (sg_ys K.1 n) K.1 = 99 then -3 else nI (sg_ft K.2.1 (K.1 4) s (sg_ys K.1 n) K.1)) ∧ (sg_ft K.2.1 (K.1 4) s (sg_ys K.1 n) K.1 = 99 ∨ sg_ft K.2.1 (K.1 4) s (sg_ys K.1 n) K.1 ≤ 4) := by
  have h := ln2_mnf (K := K) (s := s) hn (sg_np K.1 n)
  have e : mnf (sg_lf K (sg_ys K.1 n) s) (sg_np K.1 n) = sg_ft K.2.1 (K.1 4) s (sg_ys K.1 n) K.1 := mnf_ft _ _
  rw [e] at h
  rw [h.1]
  refine ⟨?_, h.2⟩
  split <;> rfl
theorem q_subs : ∀ p, p < 64 → ∀ s, s < 64 → (nI p &&& nI s = nI s ↔ s &&& p = s) := by decide +kernel
theorem q_mi {a b : Nat} (ha : a < 2 ^ 31) (hb : b < 2 ^ 31) : (if nI b < nI a then nI b else nI a) = nI (min a b) := by
  by_cases h : b < a
  · rw [if_pos ((nI_ltI hb ha).mpr h), Nat.min_eq_right (by omega)]
  · rw [if_neg (fun z => h ((nI_ltI hb ha).mp z)), Nat.min_eq_left (by omega)]
