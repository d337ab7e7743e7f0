/-! ===== the law, from its entry, out of what the start gives ===== -/
theorem gk_sl_120 : gk_sl 120 ≤ 7302250 := by decide +kernel
theorem gk_rooms : 18 ≤ room_1.frames ∧ 64 * 18 ≤ room_1.locals ∧ 120 ≤ room_1.cells ∧ gk_sl 120 ≤ room_1.slots := by decide +kernel
set_option maxHeartbeats 1000000 in
theorem lw_core (hMu : gk_Mu) {p : Program} {e : Env} {s : State} {m : MethodId} {below : List Frame} {meth : Method} {c : Code} (l : Launch) {b L : Nat} {xs : Nat → Int32} (hL : L ≤ 2560) (C0 : lw_At p s m meth c b L xs) {ad : Nat → Nat} {ca : Nat → ClassId} {G : va_G} (had : ∀ q, q < 120 → ad q = s.heap.size + q) (h300 : ad 300 = b) (hK : va_K G vwCl (dk_tys ca) s) (hSt : dk_St ad (fun q => s.heap.size ≤ q) s) (hAO : gk_AO s) : W p l e room_1 s m #[Value.ref b] below meth c s.heap [] 0 0 (lw_Z below #[Value.ref b] s) (entryFrame m ([Value.ref b] : List Value).toArray 4) := by
  obtain ⟨hx, hb, hr, hml, hown, hts, hX, hbl, hlocks, hgv⟩ := C0
  have hdk : ∀ w ∈ dk_T, w.before #[Value.ref b] s = true := fun w hw => hts w (List.mem_filter.mp hw).1
  have had0 : ad 0 = s.heap.size := had 0 (by omega)
  obtain ⟨rm1, rm2, rm3, rm4⟩ := gk_rooms
  have hlv := lv_entry ([Value.ref b] : List Value) (n := 4) (Nat.le_of_ble_eq_true rfl)
  rw [lg_entry_eq]
  generalize (lg_sl ([Value.ref b] : List Value) ++ List.replicate (4 - (lg_sl ([Value.ref b] : List Value)).length) Slot.unset).toArray = ls at hlv ⊢
  have hA1 : 120 - 0 ≤ room_1.cells := rm3
  have hA2 : gk_sl 120 - gk_sl 0 ≤ room_1.slots := Nat.le_trans (Nat.sub_le _ _) rm4
  have hA3 : (0 : Nat) + gk_sl 0 = gk_sl 0 := Nat.zero_add _
  have hA4 : gk_un gk_M0 0 := fun p _ => ⟨rfl, rfl⟩
  have hown2 : s.vm.findClass mL_law.1.cls = some m.cls := hown
  refine gv_law hMu (d := 13) p l e room_1 s m _ below meth c s.heap [] 0 0 _ ls ad ca G (fun q => s.heap.size ≤ q) ⟨hx, hb, hml, hown2, hdk, rm1, rm2, hA1, hA2, trivial, Nat.le_refl _⟩ ?_ ⟨hK, fun k q h => (by cases h), ⟨fun i j p q h => (by cases h), fun k q h => (by cases h)⟩, va_S.rf, fun q hq => (by rw [had q hq, had0]), Nat.le_refl _, rfl, hA3, hA4, fun q hq => (by rw [had0] at hq; exact hq), had0.symm, by decide, hAO⟩ ?_
  · unfold dk_Lv
    show lv_has ls 4 [(0, dk_rv ad (.ref 300))]
    have e : dk_rv ad (.ref 300) = .ref b := by show Value.ref (ad 300) = _; rw [h300]
    rw [e]
    exact hlv
  · intro M' H' locs' cells' slots' hq hw ls' hL'
    subst hq
    obtain ⟨wK, wP, wD, wS, i1, i3, i4, i5, i6, i7, i8, i9, iA⟩ := hw
    obtain ⟨dP, dD⟩ := gk_dk wP wD
    have hc : cells' = 120 := by omega
    have hs : slots' = gk_sl 120 := by have h0 : gk_sl 0 = 0 := rfl; rw [h0] at i5; omega
    have hF : va_X (ad 300) L xs s s.heap ∧ ad 300 < s.heap.size ∧ ¬ (fun q => s.heap.size ≤ q) (ad 300) := by
      rw [h300]
      exact ⟨hX, hbl, Nat.not_le.mpr hbl⟩
    refine lw_loop (sl := L) (sx := xs) hL (L + 1) 0 gK gE none gM (Nat.zero_le _) (by omega) g_S p l e room_1 s m _ below meth c H' locs' cells' slots' _ ls' ad ca G (fun q => s.heap.size ≤ q) ⟨hx, hb, hml, hown2, hdk, rm1, rm2, by rw [hc]; exact rm3, by rw [hs]; exact rm4⟩ hL' ⟨wK, dP, dD, wS, hSt⟩ ?_ hF
    intro v M2 H2 locs2 hv hw2 pc2 ls2 hret
    subst hv
    rcases hret with ⟨h1, -, -⟩ | ⟨x, h1, hd, -⟩
    · cases h1
    · show W p l e room_1 s m _ below meth c H2 locs2 cells' slots' _ (F0 m pc2 ls2 [.int 1])
      refine va_forget (fun q hq => hw2.2.2.2.1.2.2 q hq) ?_
      refine W.widen (k := 600000) (n := 7302250) (by rw [hc]; exact Nat.le_of_ble_eq_true rfl) (by rw [hs]; exact gk_sl_120) ?_
      exact lw_ret hx hb hr hlocks hd
