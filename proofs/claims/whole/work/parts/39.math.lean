theorem dk_m0 : Cond.initialized "java/lang/Math" ∈ dk_T := dk_in (i := 106) (by decide +kernel) rfl
theorem dk_m1_min : Cond.code Lib.Math.min.name Lib.Math.min.code 2 (some .int) ∈ dk_T := dk_in (i := 807) (by decide +kernel) rfl
theorem dk_m2_min : Cond.static Lib.Math.min.name ∈ dk_T := dk_in (i := 806) (by decide +kernel) rfl
theorem dk_m3_min_X4_28 : Cond.methodLink RX4 28 Lib.Math.min.name ∈ dk_T := dk_in (i := 805) (by decide +kernel) rfl
theorem dk_m3_min_X11_375 : Cond.methodLink RX11 375 Lib.Math.min.name ∈ dk_T := dk_in (i := 930) (by decide +kernel) rfl
theorem dk_m3_min_X6_79 : Cond.methodLink RX6 79 Lib.Math.min.name ∈ dk_T := dk_in (i := 949) (by decide +kernel) rfl
theorem dk_m3_min_X7_92 : Cond.methodLink RX7 92 Lib.Math.min.name ∈ dk_T := dk_in (i := 1013) (by decide +kernel) rfl
theorem w_mmin {d : Nat} {μ : dk_Mt} {pc n idx : Nat} {L : List (Option Value)} {st : List Value} {M : dk_Mem} {Q : Option Value → dk_Mem → Prop} {x y : Int32} (hl : Cond.methodLink μ.1.cls idx Lib.Math.min.name ∈ dk_T) (hc : (st.map Value.category).sum ≤ 8) (hd : decode μ.2.1 pc = .ok (.invokestatic idx, 3)) (hn : pc + 3 = n) (k : dk_W (d + 1) μ n L (.int (if y < x then y else x) :: st) M Q) : dk_W (d + 1) μ pc L (.int y :: .int x :: st) M Q := by
  subst hn
  intro p l e R s m args below meth c H locs cells slots Z ls ad ca G A C hL hW hK
  obtain ⟨hx, hb, hml, hown, hts, hf1, hf2, hc1, hc2⟩ := id C
  exact va_mmin hx hb (by rw [hml, hL.1]) hown (hts _ hl) (hts _ dk_m2_min) (hts _ dk_m0) (hts _ dk_m1_min) (by omega) (by rw [dk_cats]; omega) hc1 hc2 hd (k p l e R s m args below meth c H locs cells slots Z ls ad ca G A C hL hW hK)
theorem dk_m1_max : Cond.code Lib.Math.max.name Lib.Math.max.code 2 (some .int) ∈ dk_T := dk_in (i := 567) (by decide +kernel) rfl
theorem dk_m2_max : Cond.static Lib.Math.max.name ∈ dk_T := dk_in (i := 566) (by decide +kernel) rfl
theorem dk_m3_max_X3_11 : Cond.methodLink RX3 11 Lib.Math.max.name ∈ dk_T := dk_in (i := 565) (by decide +kernel) rfl
theorem dk_m3_max_X10_175 : Cond.methodLink RX10 175 Lib.Math.max.name ∈ dk_T := dk_in (i := 808) (by decide +kernel) rfl
theorem dk_m3_max_X11_380 : Cond.methodLink RX11 380 Lib.Math.max.name ∈ dk_T := dk_in (i := 931) (by decide +kernel) rfl
theorem dk_m3_max_X7_97 : Cond.methodLink RX7 97 Lib.Math.max.name ∈ dk_T := dk_in (i := 1005) (by decide +kernel) rfl
theorem w_mmax {d : Nat} {μ : dk_Mt} {pc n idx : Nat} {L : List (Option Value)} {st : List Value} {M : dk_Mem} {Q : Option Value → dk_Mem → Prop} {x y : Int32} (hl : Cond.methodLink μ.1.cls idx Lib.Math.max.name ∈ dk_T) (hc : (st.map Value.category).sum ≤ 8) (hd : decode μ.2.1 pc = .ok (.invokestatic idx, 3)) (hn : pc + 3 = n) (k : dk_W (d + 1) μ n L (.int (if x < y then y else x) :: st) M Q) : dk_W (d + 1) μ pc L (.int y :: .int x :: st) M Q := by
  subst hn
  intro p l e R s m args below meth c H locs cells slots Z ls ad ca G A C hL hW hK
  obtain ⟨hx, hb, hml, hown, hts, hf1, hf2, hc1, hc2⟩ := id C
  exact va_mmax hx hb (by rw [hml, hL.1]) hown (hts _ hl) (hts _ dk_m2_max) (hts _ dk_m0) (hts _ dk_m1_max) (by omega) (by rw [dk_cats]; omega) hc1 hc2 hd (k p l e R s m args below meth c H locs cells slots Z ls ad ca G A C hL hW hK)
theorem dk_m1_abs : Cond.code Lib.Math.abs.name Lib.Math.abs.code 1 (some .int) ∈ dk_T := dk_in (i := 886) (by decide +kernel) rfl
theorem dk_m2_abs : Cond.static Lib.Math.abs.name ∈ dk_T := dk_in (i := 885) (by decide +kernel) rfl
theorem dk_m3_abs_X10_188 : Cond.methodLink RX10 188 Lib.Math.abs.name ∈ dk_T := dk_in (i := 884) (by decide +kernel) rfl
theorem w_mabs {d : Nat} {μ : dk_Mt} {pc n idx : Nat} {L : List (Option Value)} {st : List Value} {M : dk_Mem} {Q : Option Value → dk_Mem → Prop} {x : Int32} (hl : Cond.methodLink μ.1.cls idx Lib.Math.abs.name ∈ dk_T) (hc : (st.map Value.category).sum ≤ 8) (hd : decode μ.2.1 pc = .ok (.invokestatic idx, 3)) (hn : pc + 3 = n) (k : dk_W (d + 1) μ n L (.int (if 0 ≤ x then x else 0 - x) :: st) M Q) : dk_W (d + 1) μ pc L (.int x :: st) M Q := by
  subst hn
  intro p l e R s m args below meth c H locs cells slots Z ls ad ca G A C hL hW hK
  obtain ⟨hx, hb, hml, hown, hts, hf1, hf2, hc1, hc2⟩ := id C
  exact va_mabs hx hb (by rw [hml, hL.1]) hown (hts _ hl) (hts _ dk_m2_abs) (hts _ dk_m0) (hts _ dk_m1_abs) (by omega) (by rw [dk_cats]; omega) hc1 hc2 hd (k p l e R s m args below meth c H locs cells slots Z ls ad ca G A C hL hW hK)