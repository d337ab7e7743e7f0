/-! ===== wrapped rows of the growing world ===== -/
section GKX
variable {n0 nx d : Nat} {μ ν : dk_Mt} {pc n idx n' ci p' np k : Nat} {L : List (Option Value)} {st As : List Value} {M : dk_Mem} {Q : dk_Mem → Prop} {C : String} {T : u_T} {N : Nat} {ty0 : Nat → FieldType}
theorem gw_pI {x : Int32} (hf : dk_F μ.1.cls idx ci k false .int ∧ dk_ft ci k < 2) (hs : dk_is p' ci) (hp : p' < np) (hd : decode μ.2.1 pc = .ok (.putfield idx, 3)) (hn : pc + 3 = n) (kk : gk_W n0 nx d μ n L st (dk_put M p' k x) np Q) : gk_W n0 nx d μ pc L (.int x :: .ref p' :: st) M np Q :=
  gw_putV (.int x) x hf.1 (fun h => by cases h) hs hp (fun ad => by simp only [gk_fv, if_pos hf.2]; simp [dk_put, dk_rv]) (fun ad => rfl) (fun ad => rfl) hd hn kk
theorem gw_pZ {x : Int32} (h01 : x = 0 ∨ x = 1) (hf : dk_F μ.1.cls idx ci k false .boolean ∧ dk_ft ci k < 2) (hs : dk_is p' ci) (hp : p' < np) (hd : decode μ.2.1 pc = .ok (.putfield idx, 3)) (hn : pc + 3 = n) (kk : gk_W n0 nx d μ n L st (dk_put M p' k x) np Q) : gk_W n0 nx d μ pc L (.int x :: .ref p' :: st) M np Q :=
  gw_putV (.int x) x hf.1 (fun h => by cases h) hs hp (fun ad => by simp only [gk_fv, if_pos hf.2]; simp [dk_put, dk_rv]) (fun ad => dk_bool h01) (fun ad => by rcases h01 with rfl | rfl <;> rfl) hd hn kk
theorem gw_pR {q : Nat} {fin : Bool} {ty : FieldType} (hq : q < 120) (hf : dk_F μ.1.cls idx ci k fin ty) (ht : ¬ dk_ft ci k < 2) (hty : ∀ a : Nat, narrow ty (.ref a) = .ref a ∧ fits ty (.ref a) = true) (hF : fin = true → μ.1.name = "<init>" ∧ ∀ C T N ty0, dk_CL ci C T N ty0 → (T k).1 = μ.1.cls) (hs : dk_is p' ci) (hp : p' < np) (hd : decode μ.2.1 pc = .ok (.putfield idx, 3)) (hn : pc + 3 = n) (kk : gk_W n0 nx d μ n L st (dk_put M p' k (nI q)) np Q) : gk_W n0 nx d μ pc L (.ref q :: .ref p' :: st) M np Q :=
  gw_putV (.ref q) (nI q) hf hF hs hp (fun ad => by simp only [gk_fv, if_neg ht]; simp [dk_put, dk_rv, dk_ref, nI_pos (show q < 2 ^ 31 by omega), nI_clamp (show q < 2 ^ 31 by omega), va_rf]) (fun ad => (hty _).1) (fun ad => (hty _).2) hd hn kk
theorem gw_pN {ty : FieldType} (hf : dk_F μ.1.cls idx ci k false ty) (ht : ¬ dk_ft ci k < 2) (hty : narrow ty .null = .null ∧ fits ty .null = true) (hs : dk_is p' ci) (hp : p' < np) (hd : decode μ.2.1 pc = .ok (.putfield idx, 3)) (hn : pc + 3 = n) (kk : gk_W n0 nx d μ n L st (dk_put M p' k (-1)) np Q) : gk_W n0 nx d μ pc L (.null :: .ref p' :: st) M np Q :=
  gw_putV .null (-1) hf (fun h => by cases h) hs hp (fun ad => by simp only [gk_fv, if_neg ht]; simp [dk_put, dk_rv, dk_ref, va_rf]) (fun ad => hty.1) (fun ad => hty.2) hd hn kk
theorem gw_gR {q : Nat} {fin : Bool} {ty : FieldType} (hf : dk_F μ.1.cls idx ci k fin ty) (ht : ¬ dk_ft ci k < 2) (hs : dk_is p' ci) (hp : p' < np) (hq : dk_ref M p' k = some q) (hd : decode μ.2.1 pc = .ok (.getfield idx, 3)) (hn : pc + 3 = n) (kk : gk_W n0 nx d μ n L (.ref q :: st) M np Q) : gk_W n0 nx d μ pc L (.ref p' :: st) M np Q :=
  gw_getV (.ref q) hf hs hp (fun ad => by simp only [gk_fv, if_neg ht, hq]; rfl) hd hn kk
theorem gw_alen (hs : dk_ar p' 20 N) (hp : p' < np) (hd : decode μ.2.1 pc = .ok (.arraylength, 1)) (hn : pc + 1 = n) (kk : gk_W n0 nx d μ n L (.int (nI N) :: st) M np Q) : gk_W n0 nx d μ pc L (.ref p' :: st) M np Q := by
  subst hn
  intro p l e R s m args below meth c H locs cells slots Z ls ad ca G A C hL hW hK
  obtain ⟨h1, h2, h3⟩ := hs
  exact va_alen C.1 C.2.1 hW.1 hW.2.1 p' 0 (by rw [gk_ws_at hp, gk_cell_i h1 (by decide) (by decide)]) rfl (v := nI N) (by rw [← h3]; rfl) hd (kk p l e R s m args below meth c H locs cells slots Z ls ad ca G A C hL hW hK)
theorem gw_ist {j : Nat} {i x : Int32} (hs : dk_ar p' 20 N) (hp : p' < np) (hi : i = nI j) (hj : j < N) (hN : N < 2 ^ 31) (hd : decode μ.2.1 pc = .ok (.iastore, 1)) (hn : pc + 1 = n) (kk : gk_W n0 nx d μ n L st (dk_put M p' j x) np Q) : gk_W n0 nx d μ pc L (.int x :: .int i :: .ref p' :: st) M np Q := by
  subst hi
  refine gw_iast hs hp (vp_in_nI hj hN) hd hn ?_
  rw [nI_clamp (by omega)]
  exact kk

theorem gw_nI (hs : dk_ar np 20 N) (hN : N < 10000) (hx9 : np < nx) (hd : decode μ.2.1 pc = .ok (.newarray .int, 2)) (hn : pc + 2 = n) (kk : gk_W n0 nx d μ n L (.ref np :: st) M (np + 1) Q) : gk_W n0 nx d μ pc L (.int (nI N) :: st) M np Q :=
  gw_newa (atype := .int) (t := 20) (kt := 0) (ty := .int) rfl (fun ca => rfl) (fun U cA h => h) (by show N * 4 ≤ 536870912; omega) (by omega) (fun ad ca M h1 h2 => ⟨(N, .inl (M.1 np)), by rw [gk_cell_i hs.1 (by decide) (by decide), hs.2.2], fun cA => by
    rw [vp_cell_i]
    congr 2
    funext j
    rw [h1]
    show Value.int (if (dk_sh np < 20 ∧ ¬ dk_ft (dk_sh np) j < 2) ∨ 24 ≤ dk_sh np then (-1 : Int32) else 0) = _
    rw [hs.1, if_neg (by omega)]
    rfl⟩) (by unfold gk_z; rw [hs.1, if_neg (by decide), hs.2.2]) hx9 in_151 hd hn kk

theorem gw_nB (hs : dk_ar np 21 N) (hN : N < 10000) (hx9 : np < nx) (hd : decode μ.2.1 pc = .ok (.newarray .byte, 2)) (hn : pc + 2 = n) (kk : gk_W n0 nx d μ n L (.ref np :: st) M (np + 1) Q) : gk_W n0 nx d μ pc L (.int (nI N) :: st) M np Q :=
  gw_newa (atype := .byte) (t := 21) (kt := 1) (ty := .byte) rfl (fun ca => rfl) (fun U cA h => h) (by show N * 1 ≤ 536870912; omega) (by omega) (fun ad ca M h1 h2 => ⟨(N, .inl (M.1 np)), by rw [gk_cell_i hs.1 (by decide) (by decide), hs.2.2], fun cA => by
    rw [vp_cell_i]
    congr 2
    funext j
    rw [h1]
    show Value.int (if (dk_sh np < 20 ∧ ¬ dk_ft (dk_sh np) j < 2) ∨ 24 ≤ dk_sh np then (-1 : Int32) else 0) = _
    rw [hs.1, if_neg (by omega)]
    rfl⟩) (by unfold gk_z; rw [hs.1, if_neg (by decide), hs.2.2]) hx9 in_474 hd hn kk

theorem gw_nZ (hs : dk_ar np 22 N) (hN : N < 10000) (hx9 : np < nx) (hd : decode μ.2.1 pc = .ok (.newarray .boolean, 2)) (hn : pc + 2 = n) (kk : gk_W n0 nx d μ n L (.ref np :: st) M (np + 1) Q) : gk_W n0 nx d μ pc L (.int (nI N) :: st) M np Q :=
  gw_newa (atype := .boolean) (t := 22) (kt := 2) (ty := .boolean) rfl (fun ca => rfl) (fun U cA h => h) (by show N * 1 ≤ 536870912; omega) (by omega) (fun ad ca M h1 h2 => ⟨(N, .inl (M.1 np)), by rw [gk_cell_i hs.1 (by decide) (by decide), hs.2.2], fun cA => by
    rw [vp_cell_i]
    congr 2
    funext j
    rw [h1]
    show Value.int (if (dk_sh np < 20 ∧ ¬ dk_ft (dk_sh np) j < 2) ∨ 24 ≤ dk_sh np then (-1 : Int32) else 0) = _
    rw [hs.1, if_neg (by omega)]
    rfl⟩) (by unfold gk_z; rw [hs.1, if_neg (by decide), hs.2.2]) hx9 in_1348 hd hn kk

theorem gw_nJ (hs : dk_ar np 23 N) (hN : N < 10000) (hx9 : np < nx) (hd : decode μ.2.1 pc = .ok (.newarray .long, 2)) (hn : pc + 2 = n) (kk : gk_W n0 nx d μ n L (.ref np :: st) M (np + 1) Q) : gk_W n0 nx d μ pc L (.int (nI N) :: st) M np Q :=
  gw_newa (atype := .long) (t := 23) (kt := 3) (ty := .long) rfl (fun ca => rfl) (fun U cA h => h) (by show N * 8 ≤ 536870912; omega) (by omega) (fun ad ca M h1 h2 => ⟨(N, .inr (.inl (M.2 np))), by rw [gk_cell_l hs.1, hs.2.2], fun cA => by
    rw [vp_cell_l, h2]
    rfl⟩) (by unfold gk_z; rw [hs.1, if_neg (by decide), hs.2.2]) hx9 in_1349 hd hn kk

end GKX
theorem gk_fillL {np nx d : Nat} {M : dk_Mem} {Q : dk_Mem → Prop} {p N : Nat} (hp : dk_ar p 20 N) (hpn : p < np) (hN : N < 2 ^ 31 - 1) {x : Int32} (hq : Q (dk_fl M p x N)) : ∀ (n k : Nat), k ≤ N → N - k < n → gk_W np np d mJ7_fill_53178 5 [some (.ref p), some (.int x), some (.int (nI k)), some (.int (nI N))] [] (dk_fl M p x k) np Q := by
  intro n
  induction n with
  | zero => intro k _ h; omega
  | succ n ih =>
    intro k hi hn
    refine gw_il2 (n := 6) dJ7_fill_53178_5 rfl ?_
    refine gw_il3 (n := 7) dJ7_fill_53178_6 rfl ?_
    refine gw_ic_ge (n := 10) 20 dJ7_fill_53178_7 (by decide) rfl (fun z => ?_) (fun z => ?_)
    · rw [q_le (by omega) (by omega)] at z
      rw [show k = N by omega]
      exact gw_ret rfl dJ7_fill_53178_20 hq
    · rw [q_le (by omega) (by omega)] at z
      refine gw_al0 (n := 11) dJ7_fill_53178_10 rfl ?_
      refine gw_il2 (n := 12) dJ7_fill_53178_11 rfl ?_
      refine gw_il1 (n := 13) dJ7_fill_53178_12 rfl ?_
      refine gw_ist (n := 14) hp hpn rfl (by omega) (by omega) dJ7_fill_53178_13 rfl ?_
      refine gw_inc2 (n := 17) (nI 1) dJ7_fill_53178_14 (by decide) rfl rfl (by decide) ?_
      refine gw_goto 5 dJ7_fill_53178_17 (by decide) ?_
      rw [dk_fl_s, nI_add]
      exact ih (k + 1) (by omega) (by omega)
theorem gk_fill {np d : Nat} {M : dk_Mem} {Q : dk_Mem → Prop} {p N : Nat} (hp : dk_ar p 20 N) (hpn : p < np) (h120 : np ≤ 120) (hN : N < 2 ^ 31 - 1) {x : Int32} (hq : Q (dk_fl M p x N)) : gk_Call np np d mJ7_fill_53178 [.ref p, .int x] M Q := by
  refine gk_enter [some (.ref p), some (.int x), none, none] (by decide) rfl h120 (fun _ => rfl) (fun _ => Nat.le_of_ble_eq_true rfl) ?_
  refine gw_iconst (n := 1) (nI 0) dJ7_fill_53178_0 (by decide) rfl ?_
  refine gw_is2 (n := 2) dJ7_fill_53178_1 rfl rfl (by decide) ?_
  refine gw_al0 (n := 3) dJ7_fill_53178_2 rfl ?_
  refine gw_alen (n := 4) hp hpn dJ7_fill_53178_3 rfl ?_
  refine gw_is3 (n := 5) dJ7_fill_53178_4 rfl rfl (by decide) ?_
  have h := gk_fillL (d := d) (nx := np) hp hpn hN hq (N + 1) 0 (by omega) (by omega)
  rw [dk_fl_0] at h
  exact h
