/-! ===== the row of multianewarray in the growing world ===== -/
theorem gk_mr_o {M : dk_Mem} {np q : Nat} (h : q ≠ np) : ∀ a, (gk_mr M np a).1 q = M.1 q ∧ (gk_mr M np a).2 = M.2
  | 0 => ⟨rfl, rfl⟩
  | a + 1 => ⟨by rw [gk_mr, dk_put_ne h]; exact (gk_mr_o h a).1, (gk_mr_o h a).2⟩
theorem gk_mr_s {M : dk_Mem} {np : Nat} : ∀ a j, j < a → (gk_mr M np a).1 np j = nI (np + 1 + j)
  | 0, j, h => by omega
  | a + 1, j, h => by
    rw [gk_mr]
    by_cases e : j = a
    · subst e; rw [dk_put_s]
    · rw [dk_put_k (by omega)]; exact gk_mr_s a j (by omega)
theorem gk_sl_mu {np a b : Nat} (hs : dk_ar np 26 a) (hr : ∀ i, i < a → dk_ar (np + 1 + i) 20 b) : ∀ i, i ≤ a → gk_sl (np + 1 + i) = gk_sl np + a + i * b
  | 0, _ => by
    have hz : gk_z np = a := by unfold gk_z; rw [hs.1, if_neg (by decide), hs.2.2]
    show gk_sl np + gk_z np = _
    rw [hz]; omega
  | i + 1, h => by
    have hz : gk_z (np + 1 + i) = b := by unfold gk_z; rw [(hr i (by omega)).1, if_neg (by decide), (hr i (by omega)).2.2]
    show gk_sl (np + 1 + i) + gk_z (np + 1 + i) = _
    rw [hz, gk_sl_mu hs hr i (by omega), Nat.succ_mul]; omega
theorem gk_mu : gk_Mu := by
  intro n0 nx d μ pc n idx np a b L st M Q hs ha hb hrows hnx w hd hn kk
  subst hn
  intro p l e R s m args below meth c H locs cells slots Z ls ad ca G A C hL hW hK
  refine gk_size hW (fun hsz => ?_)
  obtain ⟨hx, hbc, hml, hown, hts, hr1, hr2, hr3, hr4, hnm, h120⟩ := id C
  obtain ⟨wK, wP, wD, wS, i1, i3, i4, i5, i6, i7, i8, i9, iA⟩ := id hW
  have hsl := gk_sl_mu hs hrows a (Nat.le_refl _)
  have hle := gk_sl_le hnx
  have hle0 := gk_sl_le i3
  intro T hT X
  obtain ⟨cA, cC, U, J, hU, hfA, hfC, hJ, X1, step⟩ := mn_row X hx hown (hts _ w) (over_moved (Vm.Alike.refl s.vm) iA.2.2.1) (hts _ in_151) (g := F0 m pc ls ((Value.int (nI b) :: Value.int (nI a) :: st).map (dk_rv ad))) rfl (by rw [hbc]; exact hd) rfl (nI_lt0 (by omega)) (nI_lt0 (by omega)) (nI_clamp (by omega)) (nI_clamp (by omega)) (by omega) (by omega) (by omega) (by omega)
  have ecA : cA = ca 26 := Option.some.inj (hfA.symm.trans (wK.2 6 _ rfl).2)
  have ecC : cC = ca 20 := Option.some.inj (hfC.symm.trans (wK.2 0 _ rfl).2)
  subst ecA
  subst ecC
  have hUH : U.heap = H := hU.trans hT
  obtain ⟨f1, f2, -, -⟩ := mn_facts (U := U) (cA := ca 26) (cC := ca 20) (a := a) (b := b) a
  have f3 := fun (q : Nat) (hq : q < U.heap.size) => mn_old (cA := ca 26) (cC := ca 20) (a := a) (b := b) hq a
  have f4 := mn_new (U := U) (cA := ca 26) (cC := ca 20) (a := a) (b := b) a
  rw [hUH] at f1 f2 f3 f4
  generalize mn_s U (ca 26) (ca 20) a b a = T1 at *
  have hadk : ∀ k, k < 120 → ad k = ad 0 + k := i1
  have hun : gk_un (gk_mr M np a) (np + 1 + a) := fun q hq => ⟨by rw [(gk_mr_o (by omega) a).1]; exact (i6 q (by omega)).1, by rw [(gk_mr_o (q := q) (by omega) a).2]; exact (i6 q (by omega)).2⟩
  have hat : ∀ k, k < np + 1 + a → va_at G vwCl (ad k, gk_cell ad ca (gk_mr M np a) k) T1.heap := by
    intro k hk
    rcases (show k < np ∨ k = np ∨ np < k by omega) with h | h | h
    · have e : gk_cell ad ca (gk_mr M np a) k = gk_cell ad ca M k := gk_cell_congr (gk_mr_o (by omega) a).1 (by rw [(gk_mr_o (q := k) (by omega) a).2])
      rw [e]
      have h0 := wP k _ (gk_ws_at h)
      exact h0.kept (f3 _ h0.lt)
    · subst h
      rw [gk_cell_q hs.1 (by decide), hs.2.2, hadk k (by omega), ← hsz]
      refine Eq.trans (show T1.heap[H.size]? = _ from f2) (congrArg some ?_)
      show _ = vp_cell _ _
      rw [vp_cell_q]
      refine arrV_cg (fun j hj => ?_)
      rw [show dk_ref (gk_mr M k a) k j = some (k + 1 + j) from dk_ref_i (gk_mr_s a j hj) (by omega)]
      unfold mn_f
      rw [if_pos hj]
      have e8 : H.size + 1 + j = ad (k + 1 + j) := by rw [hadk (k + 1 + j) (by omega)]; omega
      show Value.ref (H.size + 1 + j) = Value.ref (ad (k + 1 + j))
      rw [e8]
    · obtain ⟨j, rfl⟩ : ∃ j, k = np + 1 + j := ⟨k - (np + 1), by omega⟩
      have hr := hrows j (by omega)
      rw [gk_cell_i hr.1 (by decide) (by decide), hr.2.2, hadk _ (by omega), show ad 0 + (np + 1 + j) = H.size + 1 + j by omega]
      refine Eq.trans (show T1.heap[H.size + 1 + j]? = _ from f4 j (by omega)) (congrArg some ?_)
      show _ = vp_cell _ _
      rw [vp_cell_i]
      refine arrV_cg (fun i hi => ?_)
      rw [(gk_mr_o (by omega) a).1, (i6 (np + 1 + j) (by omega)).1]
      show _ = Value.int (if (dk_sh (np + 1 + j) < 20 ∧ ¬ dk_ft (dk_sh (np + 1 + j)) i < 2) ∨ 24 ≤ dk_sh (np + 1 + j) then (-1 : Int32) else 0)
      rw [hr.1, if_neg (by omega)]
  have ixw : ∀ (k : Nat) (q : Nat × va_E), (gk_ws ad ca (gk_mr M np a) (np + 1 + a))[k]? = some q → k < np + 1 + a ∧ q = (ad k, gk_cell ad ca (gk_mr M np a) k) := by
    intro k q hk
    have hl : k < np + 1 + a := by
      have := (List.getElem?_eq_some_iff.mp hk).1
      simpa [gk_ws] using this
    rw [gk_ws_at hl] at hk
    exact ⟨hl, (Option.some.inj hk).symm⟩
  have wP1 : va_P G vwCl (gk_ws ad ca (gk_mr M np a) (np + 1 + a)) T1.heap := fun k q hk => by
    obtain ⟨hl, rfl⟩ := ixw k q hk
    exact hat k hl
  have wD1 : va_D A (gk_ws ad ca (gk_mr M np a) (np + 1 + a)) := ⟨fun i j x y hi hj hxy => by
    obtain ⟨h1, rfl⟩ := ixw i x hi
    obtain ⟨h2, rfl⟩ := ixw j y hj
    have h3 : ad i = ad j := hxy
    rw [hadk i (by omega), hadk j (by omega)] at h3
    omega, fun k q hk => by
    obtain ⟨hl, rfl⟩ := ixw k q hk
    exact i7 _ (by show ad 0 ≤ ad k; rw [hadk k (by omega)]; omega)⟩
  have wS1 : va_S A s.heap T1.heap (locs ++ J) := ⟨Nat.le_trans wS.1 (by omega), fun x q1 q2 => (f3 x (Nat.lt_of_lt_of_le q1 wS.1)).trans (wS.2.1 x q1 q2), fun x hx => by
    rcases List.mem_append.mp hx with h | h
    · exact wS.2.2 x h
    · rw [hJ x h, hT]; exact i7 _ (by show ad 0 ≤ H.size; omega)⟩
  have hWo : gk_Wo ad ca G A s T1.heap (locs ++ J) (gk_mr M np a) (np + 1 + a) (cells + 1 + a) (slots + a + a * b) n0 := ⟨wK, wP1, wD1, wS1, i1, by omega, by omega, by omega, hun, i7, i8, by omega, iA⟩
  obtain ⟨t, a1, b1⟩ := kk p l e R s m args below meth c T1.heap (locs ++ J) (cells + 1 + a) (slots + a + a * b) Z ls ad ca G A C hL hWo hK T1 rfl X1
  refine ⟨t, step t ?_, b1⟩
  have eT : T.heap.size = ad np := by rw [hT, hsz, hadk np (by omega)]
  rw [eT]
  exact a1
