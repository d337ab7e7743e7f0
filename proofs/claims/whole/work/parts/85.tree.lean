/-! ===== all plans in a row are a tree of acts ===== -/
def tr_st (x : Nat × Nat × Nat) (v p : Nat) : Nat × Nat × Nat := if x.1 < v then (v, p, 1) else if v = x.1 then (x.1, x.2.1, x.2.2 + 1) else x
def tr_jn (x y : Nat × Nat × Nat) (n : Nat) : Nat × Nat × Nat := if x.1 < y.1 then (y.1, n + y.2.1, y.2.2) else if y.1 = x.1 then (x.1, x.2.1, x.2.2 + y.2.2) else x
theorem fb_st {f : Nat → Nat} (n : Nat) : fb f (n + 2) = tr_st (fb f (n + 1)) (f (n + 1)) (n + 1) := rfl
theorem tr_g {x y : Nat × Nat × Nat} {n : Nat} (h : x.1 < y.1) : tr_jn x y n = (y.1, n + y.2.1, y.2.2) := if_pos h
theorem tr_e {x y : Nat × Nat × Nat} {n : Nat} (h : y.1 = x.1) : tr_jn x y n = (x.1, x.2.1, x.2.2 + y.2.2) := (if_neg (by omega)).trans (if_pos h)
theorem tr_l {x y : Nat × Nat × Nat} {n : Nat} (h : y.1 < x.1) : tr_jn x y n = x := (if_neg (by omega)).trans (if_neg (by omega))
theorem st_g {x : Nat × Nat × Nat} {v p : Nat} (h : x.1 < v) : tr_st x v p = (v, p, 1) := if_pos h
theorem st_e {x : Nat × Nat × Nat} {v p : Nat} (h : v = x.1) : tr_st x v p = (x.1, x.2.1, x.2.2 + 1) := (if_neg (by omega)).trans (if_pos h)
theorem st_l {x : Nat × Nat × Nat} {v p : Nat} (h : v < x.1) : tr_st x v p = x := (if_neg (by omega)).trans (if_neg (by omega))
theorem tr_js (x y : Nat × Nat × Nat) (n v p : Nat) : tr_st (tr_jn x y n) v (n + p) = tr_jn x (tr_st y v p) n := by
  obtain ⟨x1_h, x2_h, x3_h⟩ := x
  obtain ⟨y1_h, y2_h, y3_h⟩ := y
  rcases Nat.lt_trichotomy x1_h y1_h with a | a | a
  · rw [tr_g (x := (x1_h, x2_h, x3_h)) (y := (y1_h, y2_h, y3_h)) a]
    rcases Nat.lt_trichotomy y1_h v with b | b | b
    · rw [st_g (x := (y1_h, n + y2_h, y3_h)) b, st_g (x := (y1_h, y2_h, y3_h)) b, tr_g (x := (x1_h, x2_h, x3_h)) (y := (v, p, 1)) (Nat.lt_trans a b)]
    · rw [st_e (x := (y1_h, n + y2_h, y3_h)) b.symm, st_e (x := (y1_h, y2_h, y3_h)) b.symm, tr_g (x := (x1_h, x2_h, x3_h)) (y := (y1_h, y2_h, y3_h + 1)) a]
    · rw [st_l (x := (y1_h, n + y2_h, y3_h)) b, st_l (x := (y1_h, y2_h, y3_h)) b, tr_g (x := (x1_h, x2_h, x3_h)) (y := (y1_h, y2_h, y3_h)) a]
  · rw [tr_e (x := (x1_h, x2_h, x3_h)) (y := (y1_h, y2_h, y3_h)) a.symm]
    rcases Nat.lt_trichotomy y1_h v with b | b | b
    · rw [st_g (x := (x1_h, x2_h, x3_h + y3_h)) (by show x1_h < v; omega), st_g (x := (y1_h, y2_h, y3_h)) b, tr_g (x := (x1_h, x2_h, x3_h)) (y := (v, p, 1)) (by show x1_h < v; omega)]
    · rw [st_e (x := (x1_h, x2_h, x3_h + y3_h)) (by show v = x1_h; omega), st_e (x := (y1_h, y2_h, y3_h)) b.symm, tr_e (x := (x1_h, x2_h, x3_h)) (y := (y1_h, y2_h, y3_h + 1)) a.symm]
      show (x1_h, x2_h, x3_h + y3_h + 1) = (x1_h, x2_h, x3_h + (y3_h + 1))
      rw [Nat.add_assoc]
    · rw [st_l (x := (x1_h, x2_h, x3_h + y3_h)) (by show v < x1_h; omega), st_l (x := (y1_h, y2_h, y3_h)) b, tr_e (x := (x1_h, x2_h, x3_h)) (y := (y1_h, y2_h, y3_h)) a.symm]
  · rw [tr_l (x := (x1_h, x2_h, x3_h)) (y := (y1_h, y2_h, y3_h)) a]
    rcases Nat.lt_trichotomy x1_h v with b | b | b
    · rw [st_g (x := (x1_h, x2_h, x3_h)) b, st_g (x := (y1_h, y2_h, y3_h)) (by show y1_h < v; omega), tr_g (x := (x1_h, x2_h, x3_h)) (y := (v, p, 1)) b]
    · rw [st_e (x := (x1_h, x2_h, x3_h)) b.symm, st_g (x := (y1_h, y2_h, y3_h)) (by show y1_h < v; omega), tr_e (x := (x1_h, x2_h, x3_h)) (y := (v, p, 1)) b.symm]
    · rw [st_l (x := (x1_h, x2_h, x3_h)) b]
      rcases Nat.lt_trichotomy y1_h v with c | c | c
      · rw [st_g (x := (y1_h, y2_h, y3_h)) c, tr_l (x := (x1_h, x2_h, x3_h)) (y := (v, p, 1)) b]
      · rw [st_e (x := (y1_h, y2_h, y3_h)) c.symm, tr_l (x := (x1_h, x2_h, x3_h)) (y := (y1_h, y2_h, y3_h + 1)) a]
      · rw [st_l (x := (y1_h, y2_h, y3_h)) c, tr_l (x := (x1_h, x2_h, x3_h)) (y := (y1_h, y2_h, y3_h)) a]
theorem fb_app {f : Nat → Nat} {n : Nat} : ∀ m, fb f (n + 1 + (m + 1)) = tr_jn (fb f (n + 1)) (fb (fun i => f (n + 1 + i)) (m + 1)) (n + 1)
  | 0 => by
    show tr_st (fb f (n + 1)) (f (n + 1)) (n + 1) = tr_jn (fb f (n + 1)) (f (n + 1 + 0), 0, 1) (n + 1)
    rfl
  | m + 1 => by
    have ih := fb_app (f := f) (n := n) m
    rw [show n + 1 + (m + 1 + 1) = (n + 1 + m) + 2 by omega, fb_st, show n + 1 + m + 1 = n + 1 + (m + 1) by omega, ih, tr_js, fb_st]
theorem fb_congr {f g : Nat → Nat} : ∀ n, (∀ i, i < n → f i = g i) → fb f n = fb g n
  | 0, _ => rfl
  | 1, h => by show (f 0, 0, 1) = (g 0, 0, 1); rw [h 0 (by omega)]
  | n + 2, h => by rw [fb_st, fb_st, fb_congr (n + 1) (fun i hi => h i (by omega)), h (n + 1) (by omega)]
theorem fb_plus {f : Nat → Nat} {x : Nat} : ∀ n, fb (fun i => x + f i) (n + 1) = (x + (fb f (n + 1)).1, (fb f (n + 1)).2.1, (fb f (n + 1)).2.2)
  | 0 => rfl
  | n + 1 => by
    rw [fb_st, fb_st, fb_plus n]
    generalize fb f (n + 1) = y
    obtain ⟨y1_h, y2_h, y3_h⟩ := y
    rcases Nat.lt_trichotomy y1_h (f (n + 1)) with a | a | a
    · rw [st_g (x := (x + y1_h, y2_h, y3_h)) (by show x + y1_h < x + f (n + 1); omega), st_g (x := (y1_h, y2_h, y3_h)) a]
    · rw [st_e (x := (x + y1_h, y2_h, y3_h)) (by show x + f (n + 1) = x + y1_h; omega), st_e (x := (y1_h, y2_h, y3_h)) a.symm]
    · rw [st_l (x := (x + y1_h, y2_h, y3_h)) (by show x + f (n + 1) < x + y1_h; omega), st_l (x := (y1_h, y2_h, y3_h)) a]
/-- acts one behind another, each with so many plans -/
def tr_af (g : Nat → Nat × Nat × Nat) (N : Nat) : Nat → Nat × Nat × Nat
  | 0 => (0, 0, 0)
  | 1 => g 0
  | a + 2 => tr_jn (tr_af g N (a + 1)) (g (a + 1)) ((a + 1) * N)
theorem fb_af {f : Nat → Nat} {N : Nat} : ∀ a, fb f ((a + 1) * (N + 1)) = tr_af (fun a => fb (fun i => f (a * (N + 1) + i)) (N + 1)) (N + 1) (a + 1)
  | 0 => by
    show fb f ((0 + 1) * (N + 1)) = fb (fun i => f (0 * (N + 1) + i)) (N + 1)
    rw [Nat.zero_add, Nat.one_mul]
    exact fb_congr _ (fun i _ => by rw [Nat.zero_mul, Nat.zero_add])
  | a + 1 => by
    rw [tr_af, ← fb_af a]
    obtain ⟨q, hq⟩ : ∃ q, (a + 1) * (N + 1) = q + 1 := ⟨(a + 1) * (N + 1) - 1, by have := Nat.mul_pos (show 0 < a + 1 by omega) (show 0 < N + 1 by omega); omega⟩
    rw [show (a + 1 + 1) * (N + 1) = (a + 1) * (N + 1) + (N + 1) by rw [Nat.add_mul (a + 1) 1, Nat.one_mul], hq]
    exact fb_app N
/-- the tree: worth, first plan, how many -/
def sg_tb (w : sg_R) (b : Nat) : Nat → (Nat → Nat) → Nat × Nat × Nat
  | 0, _ => (0, 0, 1)
  | m + 1, σ => tr_af (fun a => ((sg_goes w σ (sg_ot a)).2 + (sg_tb w b m (sg_goes w σ (sg_ot a)).1).1, (sg_tb w b m (sg_goes w σ (sg_ot a)).1).2.1, (sg_tb w b m (sg_goes w σ (sg_ot a)).1).2.2)) (b ^ m) b
theorem pl_d_0 {b m a i : Nat} (hb : 0 < b) (ha : a < b) (hi : i < b ^ m) : pl_d b (m + 1) (a * b ^ m + i) 0 = a := by
  unfold pl_d
  rw [show m + 1 - 1 - 0 = m by omega, Nat.mul_comm, Nat.mul_add_div (Nat.pow_pos hb), Nat.div_eq_of_lt hi, Nat.add_zero, Nat.mod_eq_of_lt ha]
theorem pl_d_s {b m a i k : Nat} (hb : 0 < b) (hk : k < m) : pl_d b (m + 1) (a * b ^ m + i) (k + 1) = pl_d b m i k := by
  unfold pl_d
  rw [show m + 1 - 1 - (k + 1) = m - 1 - k by omega]
  have e : a * b ^ m = b ^ (m - 1 - k) * (a * b ^ (k + 1)) := by
    rw [show m = (m - 1 - k) + (k + 1) by omega, Nat.pow_add]
    rw [show (m - 1 - k + (k + 1) - 1 - k) = m - 1 - k by omega, Nat.mul_left_comm]
  rw [e, Nat.mul_add_div (Nat.pow_pos hb), Nat.pow_succ, ← Nat.mul_assoc, Nat.add_comm, Nat.add_mul_mod_self_right]
theorem pl_w_s {w : sg_R} {b m P i : Nat} (hd : ∀ k, k < m → pl_d b (m + 1) P (k + 1) = pl_d b m i k) : ∀ (n k : Nat) (σ : Nat → Nat), n + k = m → pl_w w b (m + 1) P n (k + 1) σ = pl_w w b m i n k σ
  | 0, _, _, _ => rfl
  | n + 1, k, σ, h => by
    rw [pl_w, pl_w, hd k (by omega), pl_w_s hd n (k + 1) _ (by omega)]
theorem fb_tb {w : sg_R} {b : Nat} (hb : 0 < b) : ∀ (m : Nat) (σ : Nat → Nat), fb (fun P => (pl_w w b m P m 0 σ).2) (b ^ m) = sg_tb w b m σ
  | 0, σ => rfl
  | m + 1, σ => by
    obtain ⟨N, hN⟩ : ∃ N, b ^ m = N + 1 := ⟨b ^ m - 1, by have := Nat.pow_pos (n := m) hb; omega⟩
    obtain ⟨a, ha⟩ : ∃ a, b = a + 1 := ⟨b - 1, by omega⟩
    have e1_h : b ^ (m + 1) = (a + 1) * (N + 1) := by rw [Nat.pow_succ, hN, ha, Nat.mul_comm]
    rw [e1_h, fb_af a, sg_tb, hN]
    have key : ∀ x, x < b → fb (fun i => (pl_w w b (m + 1) (x * (N + 1) + i) (m + 1) 0 σ).2) (N + 1) = ((sg_goes w σ (sg_ot x)).2 + (sg_tb w b m (sg_goes w σ (sg_ot x)).1).1, (sg_tb w b m (sg_goes w σ (sg_ot x)).1).2.1, (sg_tb w b m (sg_goes w σ (sg_ot x)).1).2.2) := fun x hx => by
      rw [← fb_tb hb m (sg_goes w σ (sg_ot x)).1, hN, ← fb_plus]
      refine fb_congr _ (fun i hi => ?_)
      have h0_h : sg_ot (pl_d b (m + 1) (x * (N + 1) + i) 0) = sg_ot x := by rw [← hN, pl_d_0 hb hx (by omega)]
      rw [pl_w_2 h0_h, pl_w_s (i := i) (fun k hk => by rw [← hN]; exact pl_d_s hb hk) m 0 _ (by omega)]
    have kk : ∀ n, n ≤ b → tr_af (fun a => fb (fun i => (pl_w w b (m + 1) (a * (N + 1) + i) (m + 1) 0 σ).2) (N + 1)) (N + 1) n = tr_af (fun a => ((sg_goes w σ (sg_ot a)).2 + (sg_tb w b m (sg_goes w σ (sg_ot a)).1).1, (sg_tb w b m (sg_goes w σ (sg_ot a)).1).2.1, (sg_tb w b m (sg_goes w σ (sg_ot a)).1).2.2)) (N + 1) n := by
      intro n
      induction n using Nat.strongRecOn with
      | _ n ih =>
        intro hn
        match n, ih, hn with
        | 0, _, _ => rfl
        | 1, _, hn => exact key 0 (by omega)
        | n + 2, ih, hn =>
          rw [tr_af, tr_af, ih (n + 1) (by omega) (by omega)]
          exact congrArg (fun z => tr_jn _ z _) (key (n + 1) (by omega))
    have := kk (a + 1) (by omega)
    rw [this, ← ha]
