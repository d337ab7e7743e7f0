/-! ===== the first state ===== -/
def gM : dk_Mem := gi_X12_init_104 (gi_X11_init_0 gk_M0)
def gS (k : Nat) : Nat := if k = 0 then 12 else if 7 ≤ k ∧ k < 23 then 6 else 0
def gE (j : Nat) : Int32 := if 20 ≤ j ∧ j < 24 then -1 else if 28 ≤ j ∧ j < 32 then nI 2 else 0
def gW : sg_R := sg_w (fun _ => 0) (fun _ => 0) (fun _ => py_no) 0
def gK : sg_K := (gS, gW, 0, nI 1)
theorem gS_in : sg_in gS := by
  unfold sg_in sg_ok
  decide +kernel
theorem g_rr : rr gS gM := by
  unfold rr
  decide +kernel
theorem g_rK : rK gK gM := by
  refine ⟨gS_in, g_rr, ⟨gM.1 105, rl_rb ⟨by decide, fun r hr => by omega⟩, fun k _ _ => rfl⟩, ?_, ?_⟩
  · show gM.1 105 2 = 0
    decide +kernel
  · show gM.1 105 3 = nI 1
    decide +kernel
theorem g_eI : eI gE := by
  unfold eI eN
  decide +kernel
theorem g_L1 : (gM.1 104 20 = gE 0 ∧ gM.1 104 29 = gE 40 ∧ gM.1 104 5 = gE 80) ∧ (∀ k, k < 12 → gM.1 112 k = gE (1 + k)) ∧ (∀ k, k < 4 → gM.1 113 k = gE (20 + k) ∧ gM.1 114 k = gE (24 + k) ∧ gM.1 116 k = gE (28 + k) ∧ gM.1 117 k = gE (32 + k) ∧ gM.1 118 k = gE (36 + k)) ∧ (∀ k, k < 30 → gM.1 119 k = gE (41 + k)) ∧ ∀ k, k < 200 → gM.1 108 k = gE (81 + k) := by decide +kernel
theorem g_L2 : ∀ i, i < 160 → gM.2 115 i = (gE (300 + i)).toInt64 := by decide +kernel
theorem g_rE : rE gE gM := by
  refine ⟨fun q k j h => ?_, g_L2⟩
  obtain ⟨⟨a1, a2, a3⟩, a4, a5, a6, a7⟩ := g_L1
  unfold eL at h
  rcases h with ⟨rfl, ⟨rfl, rfl⟩ | ⟨rfl, rfl⟩ | ⟨rfl, rfl⟩⟩ | ⟨rfl, h, rfl⟩ | ⟨rfl, h, rfl⟩ | ⟨rfl, h, rfl⟩ | ⟨rfl, h, rfl⟩ | ⟨rfl, h, rfl⟩ | ⟨rfl, h, rfl⟩ | ⟨rfl, h, rfl⟩ | ⟨rfl, h, rfl⟩
  · exact a1
  · exact a2
  · exact a3
  · exact a4 k h
  · exact (a5 k h).1
  · exact (a5 k h).2.1
  · exact (a5 k h).2.2.1
  · exact (a5 k h).2.2.2.1
  · exact (a5 k h).2.2.2.2
  · exact a6 k h
  · exact a7 k h
theorem g_cs : cs gS gM := by
  unfold cs
  decide +kernel
theorem g_cm : cm 22 gS gM := by
  unfold cm
  decide +kernel
theorem g_cr : cr gS gM := by
  unfold cr
  decide +kernel
theorem g_c1 : gM.1 14 11 = 0 ∧ gM.1 14 12 = nI 1 ∧ gM.1 14 13 = nI 24 ∧ gM.1 24 0 = nI 0 ∧ gM.1 24 5 = nI 0 ∧ gM.1 0 8 = nI 82 ∧ gM.1 37 13 = nI 47 ∧ gM.1 47 5 = nI 0 ∧ gM.1 0 3 = 0 ∧ gM.1 104 3 = 0 := by decide +kernel
theorem g_cKof {M : dk_Mem} (h1 : cs gS M) (h2 : cm 22 gS M) (h3 : cr gS M) (a1 : M.1 14 11 = 0) (a2 : M.1 14 12 = nI 1) (a3 : M.1 14 13 = nI 24) (a4 : M.1 24 0 = nI 0) (a5 : M.1 24 5 = nI 0) : cK gK M := by
  have hb : cb gW (fun j k => M.1 (24 + j) k) := cl_cb (kd := fun _ => 0) (dg := fun _ => 0) (sm := fun _ => py_no) (nr := 0) ⟨by decide, a4, 0, by decide, a5, fun r hr => by omega⟩
  exact ⟨gS_in, h1, h2, ⟨fun j k => M.1 (24 + j) k, 24, hb, Or.inl rfl, ⟨rfl, rfl, fun k _ => ⟨rfl, rfl⟩, fun k _ => rfl, fun k _ _ => rfl⟩, a3⟩, h3, a1, a2, 24, Or.inl rfl, a3, a4⟩
theorem g_cK : cK gK gM := by
  obtain ⟨a1, a2, a3, a4, a5, -⟩ := g_c1
  exact g_cKof g_cs g_cm g_cr a1 a2 a3 a4 a5
theorem g_cE : cE gE gM := by
  refine ⟨?_, ?_, ?_, Or.inl (by decide +kernel), ?_⟩
  · unfold cE1
    decide +kernel
  · unfold cE2
    decide +kernel
  · unfold cE3
    decide +kernel
  · unfold cE5
    decide +kernel
theorem g_S : dk_S gK gE none gM := by
  obtain ⟨a1, a2, a3, a4, a5, a6, a7, a8, a9, a10⟩ := g_c1
  exact ⟨g_eI, ⟨g_rK, g_rE, a10⟩, g_cK, g_cE, a9, 24, 82, Or.inl ⟨rfl, rfl⟩, a3, a6, a7, by rw [a5]; exact eN_i (by omega) (by decide), by rw [a8]; exact eN_i (by omega) (by decide)⟩
theorem g_rf : ∀ p, p < 120 → (dk_sh p < 20 → ∀ k, k < 31 → dk_ft (dk_sh p) k = 2 → dk_ref gM p k = dk_rf p k) ∧ (24 ≤ dk_sh p → ∀ k, k < dk_len p → dk_ref gM p k = dk_rf p k) ∧ (dk_sh p < 20 → dk_fn (dk_sh p) ≤ 31) := by decide +kernel
theorem g_ft : ∀ c, c < 20 → ∀ k, k < 31 → dk_ft c k < 4 := by decide +kernel
