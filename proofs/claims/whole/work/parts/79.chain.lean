/-! ===== chains: what both ways come to ===== -/
def sg_nr (σ : Nat → Nat) (i k : Nat) : Prop := σ (38 + 5 * i) ≤ σ (38 + 5 * k) + 1 ∧ σ (38 + 5 * k) ≤ σ (38 + 5 * i) + 1
def sg_cl (σ : Nat → Nat) (i k : Nat) : Prop := (σ (39 + 5 * i) = 0 ∧ σ (39 + 5 * k) = 0) ∧ σ (38 + 5 * i) ≤ σ (38 + 5 * k) + 1 ∧ σ (38 + 5 * k) ≤ σ (38 + 5 * i) + 1
def ch_in (σ : Nat → Nat) (i : Nat) : Nat → Nat → Nat
  | 0, s => s
  | k + 1, s => if (ch_in σ i k s).testBit i = true ∧ (σ (39 + 5 * i) = 0 ∧ σ (39 + 5 * k) = 0) ∧ σ (38 + 5 * i) ≤ σ (38 + 5 * k) + 1 ∧ σ (38 + 5 * k) ≤ σ (38 + 5 * i) + 1 then ch_in σ i k s ||| 2 ^ k else ch_in σ i k s
/-- a pass of the reference, and a sweep of six -/
def ch_ps (σ : Nat → Nat) (p s : Nat) : Nat := if p % 6 < σ 4 then ch_in σ (p % 6) (σ 4) s else s
def ch_ou (σ : Nat → Nat) : Nat → Nat → Nat
  | 0, s => s
  | p + 1, s => ch_ps σ p (ch_ou σ p s)
def sg_ch (σ : Nat → Nat) (h : Nat) : Nat := if σ (39 + 5 * h) = 1 then 0 else ch_ou σ 36 (2 ^ h)
/-- a round of the component -/
def ch_any (σ : Nat → Nat) (j s : Nat) : Nat → Bool
  | 0 => false
  | i + 1 => ch_any σ j s i || (s.testBit i && decide (σ (38 + 5 * i) ≤ σ (38 + 5 * j) + 1) && decide (σ (38 + 5 * j) ≤ σ (38 + 5 * i) + 1))
def ch_rd (σ : Nat → Nat) : Nat → Nat → Nat
  | 0, s => s
  | j + 1, s => if σ (39 + 5 * j) = 0 ∧ ch_any σ j (ch_rd σ j s) (σ 4) = true then ch_rd σ j s ||| 2 ^ j else ch_rd σ j s
def ch_it (F : Nat → Nat) : Nat → Nat → Nat
  | 0, s => s
  | n + 1, s => F (ch_it F n s)
def sg_cc (σ : Nat → Nat) (h : Nat) : Nat := if σ (39 + 5 * h) = 1 then 0 else ch_it (ch_rd σ (σ 4)) (σ 4 - 1) (2 ^ h)
def ch_sub (s t : Nat) : Prop := ∀ j, s.testBit j = true → t.testBit j = true
def ch_ok (σ : Nat → Nat) (s : Nat) : Prop := ∀ j, s.testBit j = true → j < σ 4 ∧ σ (39 + 5 * j) = 0
def ch_cd (σ : Nat → Nat) (t : Nat) : Prop := ∀ i k, i < σ 4 → k < σ 4 → t.testBit i = true → sg_cl σ i k → t.testBit k = true
theorem ch_sub.tr {s t u : Nat} (h1_h : ch_sub s t) (h2_h : ch_sub t u) : ch_sub s u := fun j h => h2_h j (h1_h j h)
theorem ch_or {s k j : Nat} : (s ||| 2 ^ k).testBit j = true ↔ s.testBit j = true ∨ j = k := by
  rw [Nat.testBit_or, Nat.testBit_two_pow, Bool.or_eq_true, decide_eq_true_eq]
  constructor
  · rintro (h | h)
    · exact Or.inl h
    · exact Or.inr h.symm
  · rintro (h | h)
    · exact Or.inl h
    · exact Or.inr h.symm
theorem ch_in_sub {σ : Nat → Nat} {i s : Nat} : ∀ k, ch_sub s (ch_in σ i k s)
  | 0 => fun _ h => h
  | k + 1 => fun j h => by
    have h1_h := ch_in_sub (σ := σ) (i := i) k j h
    rw [ch_in]
    split
    · exact ch_or.mpr (Or.inl h1_h)
    · exact h1_h
theorem ch_in_mo {σ : Nat → Nat} {i s : Nat} {k : Nat} : ch_sub (ch_in σ i k s) (ch_in σ i (k + 1) s) := fun j h => by
  rw [ch_in]
  split
  · exact ch_or.mpr (Or.inl h)
  · exact h
theorem ch_in_le {σ : Nat → Nat} {i s k : Nat} : ∀ n, k ≤ n → ch_sub (ch_in σ i k s) (ch_in σ i n s)
  | 0, h => by rw [show k = 0 by omega]; exact fun _ z => z
  | n + 1, h => by
    by_cases e : k = n + 1
    · rw [e]; exact fun _ z => z
    · exact (ch_in_le n (by omega)).tr ch_in_mo
theorem ch_in_all {σ : Nat → Nat} {i s k n : Nat} (hk : k < n) (hi : s.testBit i = true) (hc : sg_cl σ i k) : (ch_in σ i n s).testBit k = true := by
  apply ch_in_le (k := k + 1) n (by omega) k
  rw [ch_in, if_pos ⟨ch_in_sub k i hi, hc⟩]
  exact ch_or.mpr (Or.inr rfl)
theorem ch_in_min {σ : Nat → Nat} {i s u : Nat} (hi : i < σ 4) (hu : ch_cd σ u) (hs : ch_sub s u) : ∀ k, k ≤ σ 4 → ch_sub (ch_in σ i k s) u
  | 0, _ => hs
  | k + 1, h => fun j z => by
    have ih := ch_in_min hi hu hs k (by omega)
    rw [ch_in] at z
    split at z
    · rename_i c
      rcases ch_or.mp z with z | z
      · exact ih j z
      · rw [z]; exact hu i k hi (by omega) (ih i c.1) c.2
    · exact ih j z
theorem ch_in_ok {σ : Nat → Nat} {i s : Nat} (hs : ch_ok σ s) : ∀ k, k ≤ σ 4 → ch_ok σ (ch_in σ i k s)
  | 0, _ => hs
  | k + 1, h => fun j z => by
    have ih := ch_in_ok (i := i) hs k (by omega)
    rw [ch_in] at z
    split at z
    · rename_i c
      rcases ch_or.mp z with z | z
      · exact ih j z
      · rw [z]; exact ⟨by omega, c.2.1.2⟩
    · exact ih j z
theorem ch_ps_sub {σ : Nat → Nat} {p s : Nat} : ch_sub s (ch_ps σ p s) := by
  unfold ch_ps
  split
  · exact ch_in_sub _
  · exact fun _ h => h
theorem ch_ou_sub {σ : Nat → Nat} {s : Nat} : ∀ p, ch_sub s (ch_ou σ p s)
  | 0 => fun _ h => h
  | p + 1 => (ch_ou_sub p).tr ch_ps_sub
theorem ch_ou_min {σ : Nat → Nat} {s u : Nat} (hu : ch_cd σ u) (hs : ch_sub s u) : ∀ p, ch_sub (ch_ou σ p s) u
  | 0 => hs
  | p + 1 => by
    rw [ch_ou]
    unfold ch_ps
    split
    · exact ch_in_min (by assumption) hu (ch_ou_min hu hs p) _ (Nat.le_refl _)
    · exact ch_ou_min hu hs p
theorem ch_ou_ok {σ : Nat → Nat} {s : Nat} (hs : ch_ok σ s) : ∀ p, ch_ok σ (ch_ou σ p s)
  | 0 => hs
  | p + 1 => by
    rw [ch_ou]
    unfold ch_ps
    split
    · exact ch_in_ok (ch_ou_ok hs p) _ (Nat.le_refl _)
    · exact ch_ou_ok hs p
theorem ch_lt {σ : Nat → Nat} {s : Nat} (o4_h : σ 4 ≤ 6) (hs : ch_ok σ s) : s < 2 ^ σ 4 := by
  apply Nat.lt_of_not_le
  intro h
  obtain ⟨j, h1_h, h2_h⟩ := Nat.exists_ge_and_testBit_of_ge_two_pow h
  have := (hs j h2_h).1
  omega
theorem ch_ou_add {σ : Nat → Nat} {s : Nat} {m : Nat} : ∀ p, ch_ou σ (6 * m + p) s = ch_ou σ p (ch_ou σ (6 * m) s)
  | 0 => rfl
  | p + 1 => by
    show ch_ps σ (6 * m + p) (ch_ou σ (6 * m + p) s) = ch_ps σ p (ch_ou σ p (ch_ou σ (6 * m) s))
    rw [ch_ou_add p]
    unfold ch_ps
    rw [show (6 * m + p) % 6 = p % 6 by omega]
theorem ch_ou_it {σ : Nat → Nat} {s : Nat} : ∀ m, ch_ou σ (6 * m) s = ch_it (ch_ou σ 6) m s
  | 0 => rfl
  | m + 1 => by rw [show 6 * (m + 1) = 6 * m + 6 by omega, ch_ou_add 6, ch_ou_it m, ch_it]
theorem ch_bt : ∀ s, s < 64 → ∀ t, t < 64 → s &&& t = s → s ≠ t → sg_bits s < sg_bits t := by decide +kernel
theorem ch_sub_and {s t : Nat} (h : ch_sub s t) : s &&& t = s := by
  apply Nat.eq_of_testBit_eq
  intro j
  rw [Nat.testBit_and]
  cases e : s.testBit j
  · rfl
  · rw [h j e]; rfl
theorem ch_fix {F : Nat → Nat} {s : Nat} (hF : ∀ t, ch_sub t (F t)) (hl : ∀ n, ch_it F n s < 64) : ∀ n, F (ch_it F n s) = ch_it F n s ∨ sg_bits s + n ≤ sg_bits (ch_it F n s)
  | 0 => Or.inr (Nat.le_refl _)
  | n + 1 => by
    rcases ch_fix hF hl n with h | h
    · exact Or.inl (by rw [ch_it, h, h])
    · by_cases e : F (ch_it F n s) = ch_it F n s
      · exact Or.inl (by rw [ch_it, e, e])
      · have := ch_bt _ (hl n) _ (hl (n + 1)) (ch_sub_and (hF _)) (fun z => e z.symm)
        exact Or.inr (by omega)
theorem ch_b1 : ∀ s, s < 64 → ∀ h, h < 6 → s.testBit h = true → 1 ≤ sg_bits s := by decide +kernel
theorem ch_bc : ∀ c, c < 7 → ∀ s, s < 2 ^ c → sg_bits s ≤ c ∧ (c ≤ sg_bits s → ∀ k, k < c → s.testBit k = true) := by decide +kernel
theorem ch_64 {σ : Nat → Nat} {s : Nat} (o4_h : σ 4 ≤ 6) (hs : ch_ok σ s) : s < 64 := Nat.lt_of_lt_of_le (ch_lt o4_h hs) (pow6 o4_h)
theorem ch_it_ok {σ : Nat → Nat} {F : Nat → Nat} {s : Nat} (hF : ∀ t, ch_ok σ t → ch_ok σ (F t)) (hs : ch_ok σ s) : ∀ n, ch_ok σ (ch_it F n s)
  | 0 => hs
  | n + 1 => hF _ (ch_it_ok hF hs n)
theorem ch_it_sub {F : Nat → Nat} {s : Nat} (hF : ∀ t, ch_sub t (F t)) : ∀ n, ch_sub s (ch_it F n s)
  | 0 => fun _ h => h
  | n + 1 => (ch_it_sub hF n).tr (hF _)
theorem ch_it_min {σ : Nat → Nat} {F : Nat → Nat} {s u : Nat} (hO : ∀ t, ch_ok σ t → ch_ok σ (F t)) (ho : ch_ok σ s) (hF : ∀ t, ch_ok σ t → ch_sub t u → ch_sub (F t) u) (hs : ch_sub s u) : ∀ n, ch_sub (ch_it F n s) u
  | 0 => hs
  | n + 1 => hF _ (ch_it_ok hO ho n) (ch_it_min hO ho hF hs n)
/-- enough rounds of a growing way close the set -/
theorem ch_done {σ : Nat → Nat} (o4_h : σ 4 ≤ 6) {F : Nat → Nat} {h n : Nat} (hh : h < σ 4) (hf : σ (39 + 5 * h) = 0) (hS : ∀ t, ch_sub t (F t)) (hO : ∀ t, ch_ok σ t → ch_ok σ (F t)) (hC : ∀ t, ch_ok σ t → F t = t → ch_cd σ t) (hn : σ 4 - 1 ≤ n) : ch_cd σ (ch_it F n (2 ^ h)) := by
  have ho : ch_ok σ (2 ^ h) := fun j z => by
    rw [Nat.testBit_two_pow, decide_eq_true_eq] at z
    rw [← z]; exact ⟨hh, hf⟩
  have hb : (2 ^ h).testBit h = true := by rw [Nat.testBit_two_pow]; simp
  have hl := fun n => ch_64 o4_h (ch_it_ok hO ho n)
  rcases ch_fix hS hl n with e | e
  · exact hC _ (ch_it_ok hO ho n) e
  · have b1_h := ch_b1 _ (hl 0) h (by omega) hb
    have b2_h := ch_bc (σ 4) (by omega) _ (ch_lt o4_h (ch_it_ok hO ho n))
    intro i k hi hk _ _
    have b3_h : 1 ≤ sg_bits (2 ^ h) := b1_h
    exact b2_h.2 (by omega) k hk
theorem ch_uniq {σ : Nat → Nat} {h s t : Nat} (s1_h : s.testBit h = true) (t1_h : t.testBit h = true) (s2_h : ch_cd σ s) (t2_h : ch_cd σ t) (s3_h : ∀ u, ch_cd σ u → u.testBit h = true → ch_sub s u) (t3_h : ∀ u, ch_cd σ u → u.testBit h = true → ch_sub t u) : s = t := by
  apply Nat.eq_of_testBit_eq
  intro j
  have a := s3_h t t2_h t1_h j
  have b := t3_h s s2_h s1_h j
  cases e : s.testBit j <;> cases e2_h : t.testBit j
  · rfl
  · rw [e] at b; exact absurd (b e2_h) (by decide)
  · rw [e2_h] at a; exact absurd (a e) (by decide)
  · rfl
theorem ch_ou_cd {σ : Nat → Nat} (o4_h : σ 4 ≤ 6) {t : Nat} (e : ch_ou σ 6 t = t) : ch_cd σ t := by
  intro i k hi hk hb hc
  have h1_h : ch_sub (ch_ou σ (i + 1) t) (ch_ou σ 6 t) := by
    have : ∀ n m, n ≤ m → ch_sub (ch_ou σ n t) (ch_ou σ m t) := by
      intro n m
      induction m with
      | zero => intro hm; rw [show n = 0 by omega]; exact fun _ z => z
      | succ m ih =>
        intro hm
        by_cases e : n = m + 1
        · rw [e]; exact fun _ z => z
        · exact (ih (by omega)).tr ch_ps_sub
    exact this _ _ (by omega)
  rw [e] at h1_h
  apply h1_h k
  rw [ch_ou]
  unfold ch_ps
  rw [show i % 6 = i by omega, if_pos hi]
  exact ch_in_all hk (ch_ou_sub i i hb) hc
theorem ch_any_e {σ : Nat → Nat} {j s : Nat} : ∀ n, ch_any σ j s n = true ↔ ∃ i, i < n ∧ s.testBit i = true ∧ σ (38 + 5 * i) ≤ σ (38 + 5 * j) + 1 ∧ σ (38 + 5 * j) ≤ σ (38 + 5 * i) + 1
  | 0 => by
    constructor
    · intro h; cases h
    · rintro ⟨i, h, -⟩; omega
  | n + 1 => by
    rw [ch_any, Bool.or_eq_true, ch_any_e n]
    constructor
    · rintro (⟨i, h1_h, h2_h⟩ | h)
      · exact ⟨i, by omega, h2_h⟩
      · rw [Bool.and_eq_true, Bool.and_eq_true, decide_eq_true_eq, decide_eq_true_eq] at h
        exact ⟨n, by omega, h.1.1, h.1.2, h.2⟩
    · rintro ⟨i, h1_h, h2_h, h3_h, h4_h⟩
      by_cases e : i = n
      · right
        rw [Bool.and_eq_true, Bool.and_eq_true, decide_eq_true_eq, decide_eq_true_eq, ← e]
        exact ⟨⟨h2_h, h3_h⟩, h4_h⟩
      · exact Or.inl ⟨i, by omega, h2_h, h3_h, h4_h⟩
theorem ch_rd_mo {σ : Nat → Nat} {s j : Nat} : ch_sub (ch_rd σ j s) (ch_rd σ (j + 1) s) := fun i h => by
  rw [ch_rd]
  split
  · exact ch_or.mpr (Or.inl h)
  · exact h
theorem ch_rd_le {σ : Nat → Nat} {s k : Nat} : ∀ n, k ≤ n → ch_sub (ch_rd σ k s) (ch_rd σ n s)
  | 0, h => by rw [show k = 0 by omega]; exact fun _ z => z
  | n + 1, h => by
    by_cases e : k = n + 1
    · rw [e]; exact fun _ z => z
    · exact (ch_rd_le n (by omega)).tr ch_rd_mo
theorem ch_rd_ok {σ : Nat → Nat} {s : Nat} (hs : ch_ok σ s) : ∀ j, j ≤ σ 4 → ch_ok σ (ch_rd σ j s)
  | 0, _ => hs
  | j + 1, h => fun i z => by
    have ih := ch_rd_ok hs j (by omega)
    rw [ch_rd] at z
    split at z
    · rename_i c
      rcases ch_or.mp z with z | z
      · exact ih i z
      · rw [z]; exact ⟨by omega, c.1⟩
    · exact ih i z
theorem ch_rd_min {σ : Nat → Nat} {s u : Nat} (hu : ch_cd σ u) (ho : ch_ok σ s) (hs : ch_sub s u) : ∀ j, j ≤ σ 4 → ch_sub (ch_rd σ j s) u
  | 0, _ => hs
  | j + 1, h => fun i z => by
    have ih := ch_rd_min hu ho hs j (by omega)
    rw [ch_rd] at z
    split at z
    · rename_i c
      rcases ch_or.mp z with z | z
      · exact ih i z
      · obtain ⟨m, m1_h, m2_h, m3_h, m4_h⟩ := (ch_any_e _).mp c.2
        rw [z]
        exact hu m j m1_h (by omega) (ih m m2_h) ⟨⟨(ch_rd_ok ho j (by omega) m m2_h).2, c.1⟩, m3_h, m4_h⟩
    · exact ih i z
theorem ch_rd_cd {σ : Nat → Nat} {t : Nat} (e : ch_rd σ (σ 4) t = t) : ch_cd σ t := by
  intro i k hi hk hb hc
  have h1_h : ch_sub (ch_rd σ (k + 1) t) (ch_rd σ (σ 4) t) := ch_rd_le _ (by omega)
  rw [e] at h1_h
  apply h1_h k
  rw [ch_rd, if_pos ⟨hc.1.2, (ch_any_e _).mpr ⟨i, hi, ch_rd_le (k := 0) k (by omega) i hb, hc.2.1, hc.2.2⟩⟩]
  exact ch_or.mpr (Or.inr rfl)
/-- both ways come to the same chain -/
theorem sg_cc_ch {σ : Nat → Nat} (o : sg_ok σ) {h : Nat} (hh : h < σ 4) : sg_cc σ h = sg_ch σ h := by
  have o4_h := o.2.2.2.1
  have b1_h := o.fal (h := h) (by omega)
  unfold sg_cc sg_ch
  by_cases e : σ (39 + 5 * h) = 1
  · rw [if_pos e, if_pos e]
  · rw [if_neg e, if_neg e]
    have hf : σ (39 + 5 * h) = 0 := by omega
    have ho : ch_ok σ (2 ^ h) := fun j z => by
      rw [Nat.testBit_two_pow, decide_eq_true_eq] at z
      rw [← z]; exact ⟨hh, hf⟩
    have hb : (2 ^ h).testBit h = true := by rw [Nat.testBit_two_pow]; simp
    have h2_h : ∀ u, u.testBit h = true → ch_sub (2 ^ h) u := fun u hu j z => by
      rw [Nat.testBit_two_pow, decide_eq_true_eq] at z
      rw [← z]; exact hu
    have S1 : ∀ t, ch_sub t (ch_rd σ (σ 4) t) := fun t => ch_rd_le (k := 0) _ (by omega)
    have O1 : ∀ t, ch_ok σ t → ch_ok σ (ch_rd σ (σ 4) t) := fun t ht => ch_rd_ok ht _ (Nat.le_refl _)
    have S2 : ∀ t, ch_sub t (ch_ou σ 6 t) := fun t => ch_ou_sub 6
    have O2 : ∀ t, ch_ok σ t → ch_ok σ (ch_ou σ 6 t) := fun t ht => ch_ou_ok ht 6
    rw [show (36 : Nat) = 6 * 6 from rfl, ch_ou_it 6]
    refine ch_uniq (σ := σ) (h := h) (ch_it_sub S1 _ h hb) (ch_it_sub S2 _ h hb) ?_ ?_ (fun u u1_h u2_h => ?_) (fun u u1_h u2_h => ?_)
    · exact ch_done o4_h hh hf S1 O1 (fun t _ e => ch_rd_cd e) (Nat.le_refl _)
    · exact ch_done o4_h hh hf S2 O2 (fun t _ e => ch_ou_cd o4_h e) (by omega)
    · exact ch_it_min O1 ho (fun t t1_h t2_h => ch_rd_min u1_h t1_h t2_h _ (Nat.le_refl _)) (h2_h u u2_h) _
    · exact ch_it_min O2 ho (fun t _ t2_h => ch_ou_min u1_h t2_h 6) (h2_h u u2_h) _
