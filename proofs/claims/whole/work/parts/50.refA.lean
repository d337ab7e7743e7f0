theorem sg_in.u_end {σ : Nat → Nat} (o : sg_in σ) {v : Nat} (h1 : 1 ≤ v) (h2 : v ≤ 16) (h3 : σ 1 ≤ v) : sg_in (sg_up σ 0 v) := by
  obtain ⟨⟨o1, o2, o3, o4, o5, o6, o7, o8⟩, p1, p2, p3⟩ := o
  refine ⟨⟨?_, ?_, ?_, ?_, ?_, fun y hy => ?_, fun j hj => ?_, fun i hi => ?_⟩, ?_, ?_, fun r hr => ?_⟩
  · simp only [sub_up]; (repeat' split) <;> omega
  · simp only [sub_up]; (repeat' split) <;> omega
  · simp only [sub_up]; (repeat' split) <;> omega
  · simp only [sub_up]; (repeat' split) <;> omega
  · simp only [sub_up]; (repeat' split) <;> omega
  · have := o6 y hy; simp only [sub_up]; (repeat' split) <;> omega
  · have := o7 j hj; simp only [sub_up]; (repeat' split) <;> omega
  · have := o8 i hi; simp only [sub_up]; refine ⟨?_, ?_, ?_, ?_, ?_⟩ <;> ((repeat' split) <;> omega)
  · simp only [sub_up]; (repeat' split) <;> omega
  · simp only [sub_up]; (repeat' split) <;> omega
  · have := p3 r hr; simp only [sub_up]; refine ⟨?_, ?_, ?_, ?_⟩ <;> ((repeat' split) <;> omega)
theorem sg_in.u_yr {σ : Nat → Nat} (o : sg_in σ) {v : Nat} (h1 : v ≤ σ 0) : sg_in (sg_up σ 1 v) := by
  obtain ⟨⟨o1, o2, o3, o4, o5, o6, o7, o8⟩, p1, p2, p3⟩ := o
  refine ⟨⟨?_, ?_, ?_, ?_, ?_, fun y hy => ?_, fun j hj => ?_, fun i hi => ?_⟩, ?_, ?_, fun r hr => ?_⟩
  · simp only [sub_up]; (repeat' split) <;> omega
  · simp only [sub_up]; (repeat' split) <;> omega
  · simp only [sub_up]; (repeat' split) <;> omega
  · simp only [sub_up]; (repeat' split) <;> omega
  · simp only [sub_up]; (repeat' split) <;> omega
  · have := o6 y hy; simp only [sub_up]; (repeat' split) <;> omega
  · have := o7 j hj; simp only [sub_up]; (repeat' split) <;> omega
  · have := o8 i hi; simp only [sub_up]; refine ⟨?_, ?_, ?_, ?_, ?_⟩ <;> ((repeat' split) <;> omega)
  · simp only [sub_up]; (repeat' split) <;> omega
  · simp only [sub_up]; (repeat' split) <;> omega
  · have := p3 r hr; simp only [sub_up]; refine ⟨?_, ?_, ?_, ?_⟩ <;> ((repeat' split) <;> omega)
theorem sg_in.u_cnt {σ : Nat → Nat} (o : sg_in σ) {v : Nat} (h1 : v ≤ 6) : sg_in (sg_up σ 4 v) := by
  obtain ⟨⟨o1, o2, o3, o4, o5, o6, o7, o8⟩, p1, p2, p3⟩ := o
  refine ⟨⟨?_, ?_, ?_, ?_, ?_, fun y hy => ?_, fun j hj => ?_, fun i hi => ?_⟩, ?_, ?_, fun r hr => ?_⟩
  · simp only [sub_up]; (repeat' split) <;> omega
  · simp only [sub_up]; (repeat' split) <;> omega
  · simp only [sub_up]; (repeat' split) <;> omega
  · simp only [sub_up]; (repeat' split) <;> omega
  · simp only [sub_up]; (repeat' split) <;> omega
  · have := o6 y hy; simp only [sub_up]; (repeat' split) <;> omega
  · have := o7 j hj; simp only [sub_up]; (repeat' split) <;> omega
  · have := o8 i hi; simp only [sub_up]; refine ⟨?_, ?_, ?_, ?_, ?_⟩ <;> ((repeat' split) <;> omega)
  · simp only [sub_up]; (repeat' split) <;> omega
  · simp only [sub_up]; (repeat' split) <;> omega
  · have := p3 r hr; simp only [sub_up]; refine ⟨?_, ?_, ?_, ?_⟩ <;> ((repeat' split) <;> omega)
theorem sg_in.u_rep {σ : Nat → Nat} (o : sg_in σ) {v : Nat} (h1 : v ≤ 6) : sg_in (sg_up σ 5 v) := by
  obtain ⟨⟨o1, o2, o3, o4, o5, o6, o7, o8⟩, p1, p2, p3⟩ := o
  refine ⟨⟨?_, ?_, ?_, ?_, ?_, fun y hy => ?_, fun j hj => ?_, fun i hi => ?_⟩, ?_, ?_, fun r hr => ?_⟩
  · simp only [sub_up]; (repeat' split) <;> omega
  · simp only [sub_up]; (repeat' split) <;> omega
  · simp only [sub_up]; (repeat' split) <;> omega
  · simp only [sub_up]; (repeat' split) <;> omega
  · simp only [sub_up]; (repeat' split) <;> omega
  · have := o6 y hy; simp only [sub_up]; (repeat' split) <;> omega
  · have := o7 j hj; simp only [sub_up]; (repeat' split) <;> omega
  · have := o8 i hi; simp only [sub_up]; refine ⟨?_, ?_, ?_, ?_, ?_⟩ <;> ((repeat' split) <;> omega)
  · simp only [sub_up]; (repeat' split) <;> omega
  · simp only [sub_up]; (repeat' split) <;> omega
  · have := p3 r hr; simp only [sub_up]; refine ⟨?_, ?_, ?_, ?_⟩ <;> ((repeat' split) <;> omega)
theorem sg_in.u_rul {σ : Nat → Nat} (o : sg_in σ) {v : Nat} (h1 : v ≤ 8) : sg_in (sg_up σ 6 v) := by
  obtain ⟨⟨o1, o2, o3, o4, o5, o6, o7, o8⟩, p1, p2, p3⟩ := o
  refine ⟨⟨?_, ?_, ?_, ?_, ?_, fun y hy => ?_, fun j hj => ?_, fun i hi => ?_⟩, ?_, ?_, fun r hr => ?_⟩
  · simp only [sub_up]; (repeat' split) <;> omega
  · simp only [sub_up]; (repeat' split) <;> omega
  · simp only [sub_up]; (repeat' split) <;> omega
  · simp only [sub_up]; (repeat' split) <;> omega
  · simp only [sub_up]; (repeat' split) <;> omega
  · have := o6 y hy; simp only [sub_up]; (repeat' split) <;> omega
  · have := o7 j hj; simp only [sub_up]; (repeat' split) <;> omega
  · have := o8 i hi; simp only [sub_up]; refine ⟨?_, ?_, ?_, ?_, ?_⟩ <;> ((repeat' split) <;> omega)
  · simp only [sub_up]; (repeat' split) <;> omega
  · simp only [sub_up]; (repeat' split) <;> omega
  · have := p3 r hr; simp only [sub_up]; refine ⟨?_, ?_, ?_, ?_⟩ <;> ((repeat' split) <;> omega)
theorem sg_in.u_say {σ : Nat → Nat} (o : sg_in σ) {a v : Nat} (ha : a < 16) (h1 : v ≤ 15) : sg_in (sg_up σ (7 + a) v) := by
  obtain ⟨⟨o1, o2, o3, o4, o5, o6, o7, o8⟩, p1, p2, p3⟩ := o
  refine ⟨⟨?_, ?_, ?_, ?_, ?_, fun y hy => ?_, fun j hj => ?_, fun i hi => ?_⟩, ?_, ?_, fun r hr => ?_⟩
  · simp only [sub_up]; (repeat' split) <;> omega
  · simp only [sub_up]; (repeat' split) <;> omega
  · simp only [sub_up]; (repeat' split) <;> omega
  · simp only [sub_up]; (repeat' split) <;> omega
  · simp only [sub_up]; (repeat' split) <;> omega
  · have := o6 y hy; simp only [sub_up]; (repeat' split) <;> omega
  · have := o7 j hj; simp only [sub_up]; (repeat' split) <;> omega
  · have := o8 i hi; simp only [sub_up]; refine ⟨?_, ?_, ?_, ?_, ?_⟩ <;> ((repeat' split) <;> omega)
  · simp only [sub_up]; (repeat' split) <;> omega
  · simp only [sub_up]; (repeat' split) <;> omega
  · have := p3 r hr; simp only [sub_up]; refine ⟨?_, ?_, ?_, ?_⟩ <;> ((repeat' split) <;> omega)
theorem sg_in.u_rom {σ : Nat → Nat} (o : sg_in σ) {a v : Nat} (ha : a < 12) (h1 : v ≤ 9) : sg_in (sg_up σ (23 + a) v) := by
  obtain ⟨⟨o1, o2, o3, o4, o5, o6, o7, o8⟩, p1, p2, p3⟩ := o
  refine ⟨⟨?_, ?_, ?_, ?_, ?_, fun y hy => ?_, fun j hj => ?_, fun i hi => ?_⟩, ?_, ?_, fun r hr => ?_⟩
  · simp only [sub_up]; (repeat' split) <;> omega
  · simp only [sub_up]; (repeat' split) <;> omega
  · simp only [sub_up]; (repeat' split) <;> omega
  · simp only [sub_up]; (repeat' split) <;> omega
  · simp only [sub_up]; (repeat' split) <;> omega
  · have := o6 y hy; simp only [sub_up]; (repeat' split) <;> omega
  · have := o7 j hj; simp only [sub_up]; (repeat' split) <;> omega
  · have := o8 i hi; simp only [sub_up]; refine ⟨?_, ?_, ?_, ?_, ?_⟩ <;> ((repeat' split) <;> omega)
  · simp only [sub_up]; (repeat' split) <;> omega
  · simp only [sub_up]; (repeat' split) <;> omega
  · have := p3 r hr; simp only [sub_up]; refine ⟨?_, ?_, ?_, ?_⟩ <;> ((repeat' split) <;> omega)
theorem sg_in.u_kind {σ : Nat → Nat} (o : sg_in σ) {a v : Nat} (ha : a < 6) (h1 : v ≤ 5) : sg_in (sg_up σ (35 + 5 * a) v) := by
  obtain ⟨⟨o1, o2, o3, o4, o5, o6, o7, o8⟩, p1, p2, p3⟩ := o
  refine ⟨⟨?_, ?_, ?_, ?_, ?_, fun y hy => ?_, fun j hj => ?_, fun i hi => ?_⟩, ?_, ?_, fun r hr => ?_⟩
  · simp only [sub_up]; (repeat' split) <;> omega
  · simp only [sub_up]; (repeat' split) <;> omega
  · simp only [sub_up]; (repeat' split) <;> omega
  · simp only [sub_up]; (repeat' split) <;> omega
  · simp only [sub_up]; (repeat' split) <;> omega
  · have := o6 y hy; simp only [sub_up]; (repeat' split) <;> omega
  · have := o7 j hj; simp only [sub_up]; (repeat' split) <;> omega
  · have := o8 i hi; simp only [sub_up]; refine ⟨?_, ?_, ?_, ?_, ?_⟩ <;> ((repeat' split) <;> omega)
  · simp only [sub_up]; (repeat' split) <;> omega
  · simp only [sub_up]; (repeat' split) <;> omega
  · have := p3 r hr; simp only [sub_up]; refine ⟨?_, ?_, ?_, ?_⟩ <;> ((repeat' split) <;> omega)
theorem sg_in.u_lean {σ : Nat → Nat} (o : sg_in σ) {a v : Nat} (ha : a < 6) (h1 : v ≤ 99) : sg_in (sg_up σ (36 + 5 * a) v) := by
  obtain ⟨⟨o1, o2, o3, o4, o5, o6, o7, o8⟩, p1, p2, p3⟩ := o
  refine ⟨⟨?_, ?_, ?_, ?_, ?_, fun y hy => ?_, fun j hj => ?_, fun i hi => ?_⟩, ?_, ?_, fun r hr => ?_⟩
  · simp only [sub_up]; (repeat' split) <;> omega
  · simp only [sub_up]; (repeat' split) <;> omega
  · simp only [sub_up]; (repeat' split) <;> omega
  · simp only [sub_up]; (repeat' split) <;> omega
  · simp only [sub_up]; (repeat' split) <;> omega
  · have := o6 y hy; simp only [sub_up]; (repeat' split) <;> omega
  · have := o7 j hj; simp only [sub_up]; (repeat' split) <;> omega
  · have := o8 i hi; simp only [sub_up]; refine ⟨?_, ?_, ?_, ?_, ?_⟩ <;> ((repeat' split) <;> omega)
  · simp only [sub_up]; (repeat' split) <;> omega
  · simp only [sub_up]; (repeat' split) <;> omega
  · have := p3 r hr; simp only [sub_up]; refine ⟨?_, ?_, ?_, ?_⟩ <;> ((repeat' split) <;> omega)
theorem sg_in.u_gap {σ : Nat → Nat} (o : sg_in σ) {a v : Nat} (ha : a < 6) (h1 : v ≤ 9) : sg_in (sg_up σ (37 + 5 * a) v) := by
  obtain ⟨⟨o1, o2, o3, o4, o5, o6, o7, o8⟩, p1, p2, p3⟩ := o
  refine ⟨⟨?_, ?_, ?_, ?_, ?_, fun y hy => ?_, fun j hj => ?_, fun i hi => ?_⟩, ?_, ?_, fun r hr => ?_⟩
  · simp only [sub_up]; (repeat' split) <;> omega
  · simp only [sub_up]; (repeat' split) <;> omega
  · simp only [sub_up]; (repeat' split) <;> omega
  · simp only [sub_up]; (repeat' split) <;> omega
  · simp only [sub_up]; (repeat' split) <;> omega
  · have := o6 y hy; simp only [sub_up]; (repeat' split) <;> omega
  · have := o7 j hj; simp only [sub_up]; (repeat' split) <;> omega
  · have := o8 i hi; simp only [sub_up]; refine ⟨?_, ?_, ?_, ?_, ?_⟩ <;> ((repeat' split) <;> omega)
  · simp only [sub_up]; (repeat' split) <;> omega
  · simp only [sub_up]; (repeat' split) <;> omega
  · have := p3 r hr; simp only [sub_up]; refine ⟨?_, ?_, ?_, ?_⟩ <;> ((repeat' split) <;> omega)
theorem sg_in.u_room {σ : Nat → Nat} (o : sg_in σ) {a v : Nat} (ha : a < 6) (h1 : v ≤ 5) : sg_in (sg_up σ (38 + 5 * a) v) := by
  obtain ⟨⟨o1, o2, o3, o4, o5, o6, o7, o8⟩, p1, p2, p3⟩ := o
  refine ⟨⟨?_, ?_, ?_, ?_, ?_, fun y hy => ?_, fun j hj => ?_, fun i hi => ?_⟩, ?_, ?_, fun r hr => ?_⟩
  · simp only [sub_up]; (repeat' split) <;> omega
  · simp only [sub_up]; (repeat' split) <;> omega
  · simp only [sub_up]; (repeat' split) <;> omega
  · simp only [sub_up]; (repeat' split) <;> omega
  · simp only [sub_up]; (repeat' split) <;> omega
  · have := o6 y hy; simp only [sub_up]; (repeat' split) <;> omega
  · have := o7 j hj; simp only [sub_up]; (repeat' split) <;> omega
  · have := o8 i hi; simp only [sub_up]; refine ⟨?_, ?_, ?_, ?_, ?_⟩ <;> ((repeat' split) <;> omega)
  · simp only [sub_up]; (repeat' split) <;> omega
  · simp only [sub_up]; (repeat' split) <;> omega
  · have := p3 r hr; simp only [sub_up]; refine ⟨?_, ?_, ?_, ?_⟩ <;> ((repeat' split) <;> omega)
theorem sg_in.u_fal {σ : Nat → Nat} (o : sg_in σ) {a v : Nat} (ha : a < 6) (h1 : v ≤ 1) : sg_in (sg_up σ (39 + 5 * a) v) := by
  obtain ⟨⟨o1, o2, o3, o4, o5, o6, o7, o8⟩, p1, p2, p3⟩ := o
  refine ⟨⟨?_, ?_, ?_, ?_, ?_, fun y hy => ?_, fun j hj => ?_, fun i hi => ?_⟩, ?_, ?_, fun r hr => ?_⟩
  · simp only [sub_up]; (repeat' split) <;> omega
  · simp only [sub_up]; (repeat' split) <;> omega
  · simp only [sub_up]; (repeat' split) <;> omega
  · simp only [sub_up]; (repeat' split) <;> omega
  · simp only [sub_up]; (repeat' split) <;> omega
  · have := o6 y hy; simp only [sub_up]; (repeat' split) <;> omega
  · have := o7 j hj; simp only [sub_up]; (repeat' split) <;> omega
  · have := o8 i hi; simp only [sub_up]; refine ⟨?_, ?_, ?_, ?_, ?_⟩ <;> ((repeat' split) <;> omega)
  · simp only [sub_up]; (repeat' split) <;> omega
  · simp only [sub_up]; (repeat' split) <;> omega
  · have := p3 r hr; simp only [sub_up]; refine ⟨?_, ?_, ?_, ?_⟩ <;> ((repeat' split) <;> omega)
theorem sg_in.u_r0 {σ : Nat → Nat} (o : sg_in σ) {a v : Nat} (ha : a < 6) (h1 : v ≤ 15) : sg_in (sg_up σ (65 + 4 * a) v) := by
  obtain ⟨⟨o1, o2, o3, o4, o5, o6, o7, o8⟩, p1, p2, p3⟩ := o
  refine ⟨⟨?_, ?_, ?_, ?_, ?_, fun y hy => ?_, fun j hj => ?_, fun i hi => ?_⟩, ?_, ?_, fun r hr => ?_⟩
  · simp only [sub_up]; (repeat' split) <;> omega
  · simp only [sub_up]; (repeat' split) <;> omega
  · simp only [sub_up]; (repeat' split) <;> omega
  · simp only [sub_up]; (repeat' split) <;> omega
  · simp only [sub_up]; (repeat' split) <;> omega
  · have := o6 y hy; simp only [sub_up]; (repeat' split) <;> omega
  · have := o7 j hj; simp only [sub_up]; (repeat' split) <;> omega
  · have := o8 i hi; simp only [sub_up]; refine ⟨?_, ?_, ?_, ?_, ?_⟩ <;> ((repeat' split) <;> omega)
  · simp only [sub_up]; (repeat' split) <;> omega
  · simp only [sub_up]; (repeat' split) <;> omega
  · have := p3 r hr; simp only [sub_up]; refine ⟨?_, ?_, ?_, ?_⟩ <;> ((repeat' split) <;> omega)
theorem sg_in.u_r1 {σ : Nat → Nat} (o : sg_in σ) {a v : Nat} (ha : a < 6) (h1 : v ≤ 1) : sg_in (sg_up σ (66 + 4 * a) v) := by
  obtain ⟨⟨o1, o2, o3, o4, o5, o6, o7, o8⟩, p1, p2, p3⟩ := o
  refine ⟨⟨?_, ?_, ?_, ?_, ?_, fun y hy => ?_, fun j hj => ?_, fun i hi => ?_⟩, ?_, ?_, fun r hr => ?_⟩
  · simp only [sub_up]; (repeat' split) <;> omega
  · simp only [sub_up]; (repeat' split) <;> omega
  · simp only [sub_up]; (repeat' split) <;> omega
  · simp only [sub_up]; (repeat' split) <;> omega
  · simp only [sub_up]; (repeat' split) <;> omega
  · have := o6 y hy; simp only [sub_up]; (repeat' split) <;> omega
  · have := o7 j hj; simp only [sub_up]; (repeat' split) <;> omega
  · have := o8 i hi; simp only [sub_up]; refine ⟨?_, ?_, ?_, ?_, ?_⟩ <;> ((repeat' split) <;> omega)
  · simp only [sub_up]; (repeat' split) <;> omega
  · simp only [sub_up]; (repeat' split) <;> omega
  · have := p3 r hr; simp only [sub_up]; refine ⟨?_, ?_, ?_, ?_⟩ <;> ((repeat' split) <;> omega)
theorem sg_in.u_r2 {σ : Nat → Nat} (o : sg_in σ) {a v : Nat} (ha : a < 6) (h1 : v ≤ 99) : sg_in (sg_up σ (67 + 4 * a) v) := by
  obtain ⟨⟨o1, o2, o3, o4, o5, o6, o7, o8⟩, p1, p2, p3⟩ := o
  refine ⟨⟨?_, ?_, ?_, ?_, ?_, fun y hy => ?_, fun j hj => ?_, fun i hi => ?_⟩, ?_, ?_, fun r hr => ?_⟩
  · simp only [sub_up]; (repeat' split) <;> omega
  · simp only [sub_up]; (repeat' split) <;> omega
  · simp only [sub_up]; (repeat' split) <;> omega
  · simp only [sub_up]; (repeat' split) <;> omega
  · simp only [sub_up]; (repeat' split) <;> omega
  · have := o6 y hy; simp only [sub_up]; (repeat' split) <;> omega
  · have := o7 j hj; simp only [sub_up]; (repeat' split) <;> omega
  · have := o8 i hi; simp only [sub_up]; refine ⟨?_, ?_, ?_, ?_, ?_⟩ <;> ((repeat' split) <;> omega)
  · simp only [sub_up]; (repeat' split) <;> omega
  · simp only [sub_up]; (repeat' split) <;> omega
  · have := p3 r hr; simp only [sub_up]; refine ⟨?_, ?_, ?_, ?_⟩ <;> ((repeat' split) <;> omega)
theorem sg_in.u_r3 {σ : Nat → Nat} (o : sg_in σ) {a v : Nat} (ha : a < 6) (h1 : v ≤ 99) : sg_in (sg_up σ (68 + 4 * a) v) := by
  obtain ⟨⟨o1, o2, o3, o4, o5, o6, o7, o8⟩, p1, p2, p3⟩ := o
  refine ⟨⟨?_, ?_, ?_, ?_, ?_, fun y hy => ?_, fun j hj => ?_, fun i hi => ?_⟩, ?_, ?_, fun r hr => ?_⟩
  · simp only [sub_up]; (repeat' split) <;> omega
  · simp only [sub_up]; (repeat' split) <;> omega
  · simp only [sub_up]; (repeat' split) <;> omega
  · simp only [sub_up]; (repeat' split) <;> omega
  · simp only [sub_up]; (repeat' split) <;> omega
  · have := o6 y hy; simp only [sub_up]; (repeat' split) <;> omega
  · have := o7 j hj; simp only [sub_up]; (repeat' split) <;> omega
  · have := o8 i hi; simp only [sub_up]; refine ⟨?_, ?_, ?_, ?_, ?_⟩ <;> ((repeat' split) <;> omega)
  · simp only [sub_up]; (repeat' split) <;> omega
  · simp only [sub_up]; (repeat' split) <;> omega
  · have := p3 r hr; simp only [sub_up]; refine ⟨?_, ?_, ?_, ?_⟩ <;> ((repeat' split) <;> omega)
theorem rK.up {K : sg_K} {M : dk_Mem} (h : rK K M) {j v : Nat} (hi : sg_in (sg_up K.1 j v)) (h1 : j < 89) (h2 : j ≠ 2) (h3 : j ≠ 3) (h4 : j ≠ 6) : rK (sg_up K.1 j v, K.2) (dk_put M 105 j (nI v)) := by
  obtain ⟨g1, g2, ⟨f, g3, g4⟩, g5, g6⟩ := h
  refine ⟨hi, g2.put, ⟨f, ?_, fun k a b => ?_⟩, ?_, ?_⟩
  · show rb K.2.1 (sg_up K.1 j v 6) f
    rw [sg_up_n (by omega)]; exact g3
  · rw [dk_put_k (by omega)]; exact g4 k a b
  · rw [dk_put_k (by omega)]; exact g5
  · rw [dk_put_k (by omega)]; exact g6
theorem rA_p {M : dk_Mem} {j : Nat} {x : Int32} : dk_fr rA M (dk_put M 105 j x) := dk_fr.rf.put (Or.inl rfl)
theorem rA_pp {M M1 : dk_Mem} {j : Nat} {x : Int32} (h : dk_fr rA M M1) : dk_fr rA M (dk_put M1 105 j x) := h.put (Or.inl rfl)
theorem sg_goes_6 {w : sg_R} {σ : Nat → Nat} {t : Option Nat} {j : Nat} (h : 65 ≤ j) (ht : ∀ h, t = some h → h < 6) (o4 : σ 4 ≤ 6) : (sg_goes w σ t).1 j = σ j := by
  have hf1 : ∀ (s : Nat → Nat) nx k, k < 6 → sg_f1 s nx k j = s j := fun s nx k hk => sg_f1_o (by omega)
  have hfl : ∀ (s : Nat → Nat) nx n, n ≤ 6 → sg_fl s nx n j = s j := fun s nx n => by
    induction n with
    | zero => intro _; rfl
    | succ n ih => intro hn; rw [sg_fl, hf1 _ _ _ (by omega)]; exact ih (by omega)
  have hfa : ∀ (s : Nat → Nat) h, s 4 ≤ 6 → h < 6 → sg_falls s h j = s j := fun s h h4 h6 => by unfold sg_falls; rw [hfl _ _ _ h4, sg_up_n (by omega)]
  have htd : (sg_told w σ t).1 j = σ j := by
    cases t with
    | none => rfl
    | some h =>
      have h6 := ht h rfl
      unfold sg_told
      dsimp only
      split
      · unfold sg_tells
        split
        · exact sg_up_n (by omega)
        · split
          · exact hfa _ _ o4 h6
          · rfl
      · rfl
  have e4 : (sg_told w σ t).1 4 = σ 4 := sg_told_o (by omega)
  have hl2 : ∀ n, n ≤ 6 → (sg_l2 (sg_told w σ t).1 (sg_tip (sg_told w σ t).1 (σ 4)) n).1 j = (sg_told w σ t).1 j := fun n => by
    induction n with
    | zero => intro _; rfl
    | succ n ih =>
      intro hn
      rw [sg_l2]
      split
      · show sg_falls _ n j = _
        rw [hfa _ _ (by rw [sg_l2_o (by omega) (by omega), e4]; exact o4) (by omega)]
        exact ih (by omega)
      · exact ih (by omega)
  have hl3 : ∀ (s : Nat → Nat) n, n ≤ 6 → sg_l3 s n j = s j := fun s n => by
    induction n with
    | zero => intro _; rfl
    | succ n ih => intro hn; rw [sg_l3, sg_g3_o (by omega)]; exact ih (by omega)
  show sg_up (sg_l3 (sg_mid w σ t).1 (σ 4)) 1 (σ 1 + 1) j = σ j
  rw [sg_up_n (by omega), hl3 _ _ o4]
  unfold sg_mid
  rw [hl2 _ o4, htd]
theorem sg_in.goes {w : sg_R} {σ : Nat → Nat} (o : sg_in σ) {t : Option Nat} (ht : ∀ h, t = some h → h < 6) (hy : σ 1 < σ 0) : sg_in (sg_goes w σ t).1 := by
  obtain ⟨o0, p1, p2, p3⟩ := o
  have h16 := o0.2.1
  refine ⟨o0.goes ht (by omega), ?_, ?_, fun r hr => ?_⟩
  · rw [sg_goes_1, sg_goes_o (by omega) (by omega)]; omega
  · rw [sg_goes_o (by omega) (by omega)]; exact p2
  · rw [sg_goes_6 (by omega) ht o0.2.2.2.1, sg_goes_6 (by omega) ht o0.2.2.2.1, sg_goes_6 (by omega) ht o0.2.2.2.1, sg_goes_6 (by omega) ht o0.2.2.2.1]
    exact p3 r hr
theorem rK.yr {K : sg_K} {M M2 : dk_Mem} (h : rK K M) {t : Option Nat} (ht : ∀ h, t = some h → h < 6) (hy : K.1 1 < K.1 0) (g1 : rr (sg_goes K.2.1 K.1 t).1 M2) (g2 : dk_fr rG M M2) (g3 : M2.1 105 2 = M.1 105 2 + nI (sg_goes K.2.1 K.1 t).2) : rK (sg_yr K t).2 M2 := by
  obtain ⟨a1, a2, ⟨f, a3, a4⟩, a5, a6⟩ := h
  refine ⟨a1.goes ht hy, g1, ⟨f, ?_, a4.fr g2⟩, ?_, ?_⟩
  · show rb K.2.1 ((sg_goes K.2.1 K.1 t).1 6) f
    rw [sg_goes_o (by omega) (by omega)]; exact a3
  · rw [g3, a5]; rfl
  · rw [g2.2 105 3 (by rintro (z | z) <;> omega)]; exact a6

set_option maxRecDepth 20000 in
theorem R_piece {d : Nat} {M : dk_Mem} {Q : Option Value → dk_Mem → Prop} {K : sg_K} (hK : rK K M) {a b c e : Int32} (hq : ∀ M2, rK (kf_piece K a b c e).2 M2 → dk_fr rA M M2 → Q (some (.int (kf_piece K a b c e).1)) M2) : dk_Call (d + 3) mX12_piece [.ref 104, .int a, .int b, .int c, .int e] M Q := by
  have hK0 := hK
  obtain ⟨⟨o, p1, p2, p3⟩, hr, ⟨f, hb, hT⟩, hsc, hz⟩ := hK0
  have o4 := o.2.2.2.1
  refine dk_enter [some (.ref 104), some (.int a), some (.int b), some (.int c), some (.int e), none] (by decide) (fun _ => rfl) (fun _ => Nat.le_of_ble_eq_true rfl) ?_
  refine w_il1 (n := 1) dX12_piece_0 rfl ?_
  refine w_iconst (n := 2) (nI 1) dX12_piece_1 (by decide) rfl ?_
  refine w_iconst (n := 3) (nI 5) dX12_piece_2 (by decide) rfl ?_
  refine w_cS3 (n := 6) s0_X12_in k_X12_61 (Nat.le_of_ble_eq_true rfl) dX12_piece_3 rfl (r_in (fun t3 => ?_) (fun t3 => ?_))
  · skip
    refine w_if_eq (n := 9) 33 dX12_piece_6 (by decide) rfl (fun h => absurd h (by decide)) (fun _ => ?_)
    refine w_iconst (n := 10) (nI 1) dX12_piece_9 (by decide) rfl ?_
    refine w_il2 (n := 11) dX12_piece_10 rfl ?_
    refine w_cS2 (n := 14) s0_X12_isOf k_X12_101 (Nat.le_of_ble_eq_true rfl) dX12_piece_11 rfl (r_isOf (fun t11 => ?_) (fun t11 => ?_))
    · skip
      refine w_if_eq (n := 17) 33 dX12_piece_14 (by decide) rfl (fun h => absurd h (by decide)) (fun _ => ?_)
      refine w_iconst (n := 18) (nI 2) dX12_piece_17 (by decide) rfl ?_
      refine w_il3 (n := 19) dX12_piece_18 rfl ?_
      refine w_cS2 (n := 22) s0_X12_isOf k_X12_101 (Nat.le_of_ble_eq_true rfl) dX12_piece_19 rfl (r_isOf (fun t19 => ?_) (fun t19 => ?_))
      · skip
        refine w_if_eq (n := 25) 33 dX12_piece_22 (by decide) rfl (fun h => absurd h (by decide)) (fun _ => ?_)
        refine w_il4 (n := 27) dX12_piece_25 rfl ?_
        refine w_cS1 (n := 30) s0_X12_isRoom k_X12_97 (Nat.le_of_ble_eq_true rfl) dX12_piece_27 rfl (r_isRoom (fun t27 => ?_) (fun t27 => ?_))
        · skip
          refine w_if_ne (n := 33) 35 dX12_piece_30 (by decide) rfl (fun _ => ?_) (fun h => absurd h (by decide))
          have cc : (nI 1 ≤ a ∧ a ≤ nI 5) ∧ (nI 0 ≤ b ∧ b ≤ nI 99) ∧ (nI 0 ≤ c ∧ c ≤ nI 9) ∧ nI 0 ≤ e ∧ e ≤ nI 5 := ⟨t3, by rcases t11 with z | z | z | z <;> first | exact z.2 | exact absurd z.1 (by decide), by rcases t19 with z | z | z | z <;> first | exact z.2 | exact absurd z.1 (by decide), t27⟩
          refine w_al0 (n := 36) dX12_piece_35 rfl ?_
          refine g_R (n := 39) f_X12_9_12 pl_104 rf_104_0 dX12_piece_36 rfl ?_
          refine w_iconst (n := 40) (nI 4) dX12_piece_39 (by decide) rfl ?_
          refine i_iald (n := 41) pl_105 (j := 4) rfl (by decide) (by decide) (hr 4 (by decide) (by decide) (by decide)) dX12_piece_40 rfl ?_
          refine w_is5 (n := 43) dX12_piece_41 rfl rfl (by decide) ?_
          refine w_il5 (n := 45) dX12_piece_43 rfl ?_
          refine w_bipush (n := 47) (nI 6) dX12_piece_45 (by decide) rfl ?_
          refine w_ic_ne (n := 50) 53 dX12_piece_47 (by decide) rfl (fun z47 => ?_) (fun z47 => ?_)
          · skip
            refine w_al0 (n := 54) dX12_piece_53 rfl ?_
            refine g_R (n := 57) f_X12_9_12 pl_104 rf_104_0 dX12_piece_54 rfl ?_
            refine w_iconst (n := 58) (nI 4) dX12_piece_57 (by decide) rfl ?_
            refine w_dup2 (n := 59) rfl rfl dX12_piece_58 rfl ?_
            refine i_iald (n := 60) pl_105 (j := 4) rfl (by decide) (by decide) (hr 4 (by decide) (by decide) (by decide)) dX12_piece_59 rfl ?_
            refine w_iconst (n := 61) (nI 1) dX12_piece_60 (by decide) rfl ?_
            refine w_iadd (n := 62) dX12_piece_61 rfl ?_
            refine i_iast (n := 63) pl_105 (j := 4) rfl (by decide) (by decide) dX12_piece_62 rfl ?_
            refine w_al0 (n := 64) dX12_piece_63 rfl ?_
            refine w_il5 (n := 66) dX12_piece_64 rfl ?_
            refine w_iconst (n := 67) (nI 0) dX12_piece_66 (by decide) rfl ?_
            refine w_il1 (n := 68) dX12_piece_67 rfl ?_
            refine w_cV3 (n := 71) pl_104 cl_12 s0_X12_put k_X12_105 (Nat.le_of_ble_eq_true rfl) dX12_piece_68 rfl (r_put (h := K.1 4) (w := 0) (by omega) ?_)
            refine w_al0 (n := 72) dX12_piece_71 rfl ?_
            refine w_il5 (n := 74) dX12_piece_72 rfl ?_
            refine w_iconst (n := 75) (nI 1) dX12_piece_74 (by decide) rfl ?_
            refine w_il2 (n := 76) dX12_piece_75 rfl ?_
            refine w_cV3 (n := 79) pl_104 cl_12 s0_X12_put k_X12_105 (Nat.le_of_ble_eq_true rfl) dX12_piece_76 rfl (r_put (h := K.1 4) (w := 1) (by omega) ?_)
            refine w_al0 (n := 80) dX12_piece_79 rfl ?_
            refine w_il5 (n := 82) dX12_piece_80 rfl ?_
            refine w_iconst (n := 83) (nI 2) dX12_piece_82 (by decide) rfl ?_
            refine w_il3 (n := 84) dX12_piece_83 rfl ?_
            refine w_cV3 (n := 87) pl_104 cl_12 s0_X12_put k_X12_105 (Nat.le_of_ble_eq_true rfl) dX12_piece_84 rfl (r_put (h := K.1 4) (w := 2) (by omega) ?_)
            refine w_al0 (n := 88) dX12_piece_87 rfl ?_
            refine w_il5 (n := 90) dX12_piece_88 rfl ?_
            refine w_iconst (n := 91) (nI 3) dX12_piece_90 (by decide) rfl ?_
            refine w_il4 (n := 93) dX12_piece_91 rfl ?_
            refine w_cV3 (n := 96) pl_104 cl_12 s0_X12_put k_X12_105 (Nat.le_of_ble_eq_true rfl) dX12_piece_93 rfl (r_put (h := K.1 4) (w := 3) (by omega) ?_)
            refine w_al0 (n := 97) dX12_piece_96 rfl ?_
            refine w_il5 (n := 99) dX12_piece_97 rfl ?_
            refine w_iconst (n := 100) (nI 4) dX12_piece_99 (by decide) rfl ?_
            refine w_iconst (n := 101) (nI 0) dX12_piece_100 (by decide) rfl ?_
            refine w_cV3 (n := 104) pl_104 cl_12 s0_X12_put k_X12_105 (Nat.le_of_ble_eq_true rfl) dX12_piece_101 rfl (r_put (h := K.1 4) (w := 4) (by omega) ?_)
            refine w_il5 (n := 106) dX12_piece_104 rfl ?_
            refine w_retI dX12_piece_106 rfl ?_
            have n6 : ¬ K.1 4 = 6 := fun z => z47 (by rw [z])
            obtain ⟨ea, la⟩ := tN_of (n := 5) (by decide) (Int32.le_trans (by decide) cc.1.1) cc.1.2
            obtain ⟨eb, lb⟩ := tN_of (n := 99) (by decide) cc.2.1.1 cc.2.1.2
            obtain ⟨ec, lc⟩ := tN_of (n := 9) (by decide) cc.2.2.1.1 cc.2.2.1.2
            obtain ⟨ee, le⟩ := tN_of (n := 5) (by decide) cc.2.2.2.1 cc.2.2.2.2
            rw [nI_add]
            have k1 : rK (sg_up K.1 4 (K.1 4 + 1), K.2) (dk_put M 105 4 (nI (K.1 4 + 1))) := hK.up (hK.1.u_cnt (by omega)) (by decide) (by decide) (by decide) (by decide)
            have k2 := k1.up (j := 35 + 5 * K.1 4) (v := tN a) (k1.1.u_kind (by omega) la) (by omega) (by omega) (by omega) (by omega)
            have k3 := k2.up (j := 36 + 5 * K.1 4) (v := tN b) (k2.1.u_lean (by omega) lb) (by omega) (by omega) (by omega) (by omega)
            have k4 := k3.up (j := 37 + 5 * K.1 4) (v := tN c) (k3.1.u_gap (by omega) lc) (by omega) (by omega) (by omega) (by omega)
            have k5 := k4.up (j := 38 + 5 * K.1 4) (v := tN e) (k4.1.u_room (by omega) le) (by omega) (by omega) (by omega) (by omega)
            have k6 := k5.up (j := 39 + 5 * K.1 4) (v := 0) (k5.1.u_fal (by omega) (by omega)) (by omega) (by omega) (by omega) (by omega)
            rw [← ea, ← eb, ← ec, ← ee] at k6
            refine dk_fin hq (by unfold kf_piece; rw [if_pos cc, if_neg n6]) (M2 := _) ?_ (rA_pp (rA_pp (rA_pp (rA_pp (rA_pp rA_p)))))
            rw [show 35 + 5 * K.1 4 + 1 = 36 + 5 * K.1 4 by omega, show 35 + 5 * K.1 4 + 2 = 37 + 5 * K.1 4 by omega, show 35 + 5 * K.1 4 + 3 = 38 + 5 * K.1 4 by omega, show 35 + 5 * K.1 4 + 4 = 39 + 5 * K.1 4 by omega]
            exact k6
          · skip
            refine w_bipush (n := 52) (-2) dX12_piece_50 (by decide) rfl ?_
            refine w_retI dX12_piece_52 rfl ?_
            exact dk_fin hq (by unfold kf_piece; rw [if_pos cc, if_pos ((nI_eq (by omega) (by decide)).mp z47)]) hK dk_fr.rf
        · skip
          refine w_if_ne (n := 33) 35 dX12_piece_30 (by decide) rfl (fun h => absurd h (by decide)) (fun _ => ?_)
          refine w_iconst (n := 34) (-1) dX12_piece_33 (by decide) rfl ?_
          refine w_retI dX12_piece_34 rfl ?_
          exact dk_fin hq (if_neg (fun z => by first | exact t3 z.1 | exact t11 (Or.inl ⟨rfl, z.2.1⟩) | exact t19 (Or.inr (Or.inl ⟨rfl, z.2.2.1⟩)) | exact t27 z.2.2.2)) hK dk_fr.rf
      · skip
        refine w_if_eq (n := 25) 33 dX12_piece_22 (by decide) rfl (fun _ => ?_) (fun h => absurd (by decide) h)
        refine w_iconst (n := 34) (-1) dX12_piece_33 (by decide) rfl ?_
        refine w_retI dX12_piece_34 rfl ?_
        exact dk_fin hq (if_neg (fun z => by first | exact t3 z.1 | exact t11 (Or.inl ⟨rfl, z.2.1⟩) | exact t19 (Or.inr (Or.inl ⟨rfl, z.2.2.1⟩)) | exact t27 z.2.2.2)) hK dk_fr.rf
    · skip
      refine w_if_eq (n := 17) 33 dX12_piece_14 (by decide) rfl (fun _ => ?_) (fun h => absurd (by decide) h)
      refine w_iconst (n := 34) (-1) dX12_piece_33 (by decide) rfl ?_
      refine w_retI dX12_piece_34 rfl ?_
      exact dk_fin hq (if_neg (fun z => by first | exact t3 z.1 | exact t11 (Or.inl ⟨rfl, z.2.1⟩) | exact t19 (Or.inr (Or.inl ⟨rfl, z.2.2.1⟩)) | exact t27 z.2.2.2)) hK dk_fr.rf
  · skip
    refine w_if_eq (n := 9) 33 dX12_piece_6 (by decide) rfl (fun _ => ?_) (fun h => absurd (by decide) h)
    refine w_iconst (n := 34) (-1) dX12_piece_33 (by decide) rfl ?_
    refine w_retI dX12_piece_34 rfl ?_
    exact dk_fin hq (if_neg (fun z => by first | exact t3 z.1 | exact t11 (Or.inl ⟨rfl, z.2.1⟩) | exact t19 (Or.inr (Or.inl ⟨rfl, z.2.2.1⟩)) | exact t27 z.2.2.2)) hK dk_fr.rf

theorem pof_out {K : sg_K} {h : Nat} {x : Int32} (hx : ¬ (nI 0 ≤ x ∧ x ≤ nI 9)) : sg_pof K h x = -1 := by
  have n : ∀ j, j ≤ 9 → x ≠ nI j := fun j hj e => hx (by rw [e]; exact ⟨nI_le (by omega) (by omega), nI_le hj (by decide)⟩)
  unfold sg_pof
  rw [if_neg (n 0 (by omega)), if_neg (n 1 (by omega)), if_neg (n 2 (by omega)), if_neg (n 3 (by omega)), if_neg (n 4 (by omega)), if_neg (n 5 (by omega)), if_neg (n 6 (by omega)), if_neg (n 7 (by omega)), if_neg (n 8 (by omega)), if_neg (n 9 (by omega))]
theorem pof_in {K : sg_K} {h j : Nat} (hj : j ≤ 4) : sg_pof K h (nI j) = nI (K.1 (35 + 5 * h + j)) := by
  rcases (show j = 0 ∨ j = 1 ∨ j = 2 ∨ j = 3 ∨ j = 4 by omega) with rfl | rfl | rfl | rfl | rfl
  · rfl
  · show nI (K.1 (36 + 5 * h)) = _; rw [show 36 + 5 * h = 35 + 5 * h + 1 by omega]
  · show nI (K.1 (37 + 5 * h)) = _; rw [show 37 + 5 * h = 35 + 5 * h + 2 by omega]
  · show nI (K.1 (38 + 5 * h)) = _; rw [show 38 + 5 * h = 35 + 5 * h + 3 by omega]
  · show nI (K.1 (39 + 5 * h)) = _; rw [show 39 + 5 * h = 35 + 5 * h + 4 by omega]
theorem pof_in2 {K : sg_K} {h j : Nat} {x : Int32} (e : x = nI j) (hj : j ≤ 4) : sg_pof K h x = nI (K.1 (35 + 5 * h + j)) := by rw [e]; exact pof_in hj
set_option maxRecDepth 20000 in
theorem R_pieceOf {d : Nat} {M : dk_Mem} {Q : Option Value → dk_Mem → Prop} {K : sg_K} (hK : rK K M) {k x : Int32} (hq : ∀ M2, rK (kf_pieceOf K k x).2 M2 → dk_fr rA M M2 → Q (some (.int (kf_pieceOf K k x).1)) M2) : dk_Call (d + 6) mX12_pieceOf [.ref 104, .int k, .int x] M Q := by
  have hK0 := hK
  obtain ⟨⟨o, p1, p2, p3⟩, hr, ⟨f, hb, hT⟩, hsc, hz⟩ := hK0
  have o4 := o.2.2.2.1
  refine dk_enter [some (.ref 104), some (.int k), some (.int x)] (by decide) (fun _ => rfl) (fun _ => Nat.le_of_ble_eq_true rfl) ?_
  refine w_al0 (n := 1) dX12_pieceOf_0 rfl ?_
  refine w_il1 (n := 2) dX12_pieceOf_1 rfl ?_
  refine w_cV1 (n := 5) pl_104 cl_12 s0_X12_isPiece k_X12_109 (Nat.le_of_ble_eq_true rfl) dX12_pieceOf_2 rfl (r_isPiece hr o (fun h hh e => ?_) (fun nh => ?_))
  · skip
    subst e
    have h6 : h < 6 := by omega
    refine w_if_eq (n := 8) 18 dX12_pieceOf_5 (by decide) rfl (fun h => absurd h (by decide)) (fun _ => ?_)
    refine w_il2 (n := 9) dX12_pieceOf_8 rfl ?_
    refine w_iconst (n := 10) (nI 0) dX12_pieceOf_9 (by decide) rfl ?_
    refine w_bipush (n := 12) (nI 9) dX12_pieceOf_10 (by decide) rfl ?_
    refine w_cS3 (n := 15) s0_X12_in k_X12_61 (Nat.le_of_ble_eq_true rfl) dX12_pieceOf_12 rfl (r_in (fun t12 => ?_) (fun t12 => ?_))
    · skip
      refine w_if_ne (n := 18) 20 dX12_pieceOf_15 (by decide) rfl (fun _ => ?_) (fun h => absurd h (by decide))
      refine w_il2 (n := 21) dX12_pieceOf_20 rfl ?_
      by_cases hs21_5 : x = (nI 5)
      · first | subst hs21_5 | rw [hs21_5]
        refine w_tabIn 56 dX12_pieceOf_21 (by decide) (by decide) rfl (by decide) ?_
        refine w_al0 (n := 57) dX12_pieceOf_56 rfl ?_
        refine w_il1 (n := 58) dX12_pieceOf_57 rfl ?_
        refine w_cV1 (n := 61) pl_104 cl_12 s0_X12_leansOf k_X12_112 (Nat.le_of_ble_eq_true rfl) dX12_pieceOf_58 rfl (r_leansOf hr o h6 ?_)
        refine w_retI dX12_pieceOf_61 rfl ?_
        exact dk_fin hq (by unfold kf_pieceOf; rw [sg_pc_some o4 hh]; rfl) hK dk_fr.rf
      by_cases hs21_6 : x = (nI 6)
      · first | subst hs21_6 | rw [hs21_6]
        refine w_tabIn 62 dX12_pieceOf_21 (by decide) (by decide) rfl (by decide) ?_
        refine w_al0 (n := 63) dX12_pieceOf_62 rfl ?_
        refine w_il1 (n := 64) dX12_pieceOf_63 rfl ?_
        refine w_cV1 (n := 67) pl_104 cl_12 s0_X12_bearsOf k_X12_88 (Nat.le_of_ble_eq_true rfl) dX12_pieceOf_64 rfl (r_bearsOf hr o h6 ?_)
        refine w_retI dX12_pieceOf_67 rfl ?_
        exact dk_fin hq (by unfold kf_pieceOf; rw [sg_pc_some o4 hh]; rfl) hK dk_fr.rf
      by_cases hs21_7 : x = (nI 7)
      · first | subst hs21_7 | rw [hs21_7]
        refine w_tabIn 68 dX12_pieceOf_21 (by decide) (by decide) rfl (by decide) ?_
        refine w_al0 (n := 69) dX12_pieceOf_68 rfl ?_
        refine w_il1 (n := 70) dX12_pieceOf_69 rfl ?_
        refine w_cV1 (n := 73) pl_104 cl_12 s0_X12_paysOf k_X12_91 (Nat.le_of_ble_eq_true rfl) dX12_pieceOf_70 rfl (r_paysOf hr o h6 ?_)
        refine w_retI dX12_pieceOf_73 rfl ?_
        exact dk_fin hq (by unfold kf_pieceOf; rw [sg_pc_some o4 hh]; rfl) hK dk_fr.rf
      by_cases hs21_8 : x = (nI 8)
      · first | subst hs21_8 | rw [hs21_8]
        refine w_tabIn 74 dX12_pieceOf_21 (by decide) (by decide) rfl (by decide) ?_
        refine w_al0 (n := 75) dX12_pieceOf_74 rfl ?_
        refine w_il1 (n := 76) dX12_pieceOf_75 rfl ?_
        refine w_cV1 (n := 79) pl_104 cl_12 s0_X12_mayFall k_X12_115 (Nat.le_of_ble_eq_true rfl) dX12_pieceOf_76 rfl (r_mayFall hr o h6 hb hT (fun M2 g m1 => ?_) (fun M2 g m1 => ?_))
        · skip
          refine w_if_eq (n := 82) 86 dX12_pieceOf_79 (by decide) rfl (fun h => absurd h (by decide)) (fun _ => ?_)
          refine w_iconst (n := 83) (nI 1) dX12_pieceOf_82 (by decide) rfl ?_
          refine w_goto 87 dX12_pieceOf_83 (by decide) ?_
          refine w_retI dX12_pieceOf_87 rfl ?_
          exact dk_fin hq (by unfold kf_pieceOf; rw [sg_pc_some o4 hh]; exact congrArg (fun y => (y, K)) (if_pos m1)) (hK.N (f109N g)) (rN_A (f109N g))
        · skip
          refine w_if_eq (n := 82) 86 dX12_pieceOf_79 (by decide) rfl (fun _ => ?_) (fun h => absurd (by decide) h)
          refine w_iconst (n := 87) (nI 0) dX12_pieceOf_86 (by decide) rfl ?_
          refine w_retI dX12_pieceOf_87 rfl ?_
          exact dk_fin hq (by unfold kf_pieceOf; rw [sg_pc_some o4 hh]; exact congrArg (fun y => (y, K)) (if_neg m1)) (hK.N (f109N g)) (rN_A (f109N g))
      by_cases hs21_9 : x = (nI 9)
      · first | subst hs21_9 | rw [hs21_9]
        refine w_tabIn 88 dX12_pieceOf_21 (by decide) (by decide) rfl (by decide) ?_
        refine w_al0 (n := 89) dX12_pieceOf_88 rfl ?_
        refine w_il1 (n := 90) dX12_pieceOf_89 rfl ?_
        refine w_cV1 (n := 93) pl_104 cl_12 s0_X12_does k_X12_94 (Nat.le_of_ble_eq_true rfl) dX12_pieceOf_90 rfl (hb.2 _ _ _ _ _ hT hr rfl o h6 (fun M2 g => ?_))
        refine w_retI dX12_pieceOf_93 rfl ?_
        exact dk_fin hq (by unfold kf_pieceOf; rw [sg_pc_some o4 hh]; rfl) (hK.N (f109N g)) (rN_A (f109N g))
      refine w_tabOut 94 dX12_pieceOf_21 (dk_outL5_5 hs21_5 hs21_6 hs21_7 hs21_8 hs21_9) (by decide) ?_
      refine w_al0 (n := 95) dX12_pieceOf_94 rfl ?_
      refine w_il1 (n := 96) dX12_pieceOf_95 rfl ?_
      refine w_il2 (n := 97) dX12_pieceOf_96 rfl ?_
      obtain ⟨ex, lx⟩ := tN_of (n := 9) (by decide) t12.1 t12.2
      rw [ex]
      have l5 : tN x ≤ 4 := by
        rcases (show tN x ≤ 4 ∨ tN x = 5 ∨ tN x = 6 ∨ tN x = 7 ∨ tN x = 8 ∨ tN x = 9 by omega) with e | e | e | e | e | e
        · exact e
        · exact absurd (by rw [ex, e]) hs21_5
        · exact absurd (by rw [ex, e]) hs21_6
        · exact absurd (by rw [ex, e]) hs21_7
        · exact absurd (by rw [ex, e]) hs21_8
        · exact absurd (by rw [ex, e]) hs21_9
      refine w_cV2 (n := 100) pl_104 cl_12 s0_X12_of k_X12_69 (Nat.le_of_ble_eq_true rfl) dX12_pieceOf_97 rfl (r_of (h := h) (w := tN x) (by omega) (hr _ (by omega) (by omega) (by omega)) ?_)
      refine w_retI dX12_pieceOf_100 rfl ?_
      exact dk_fin hq (by unfold kf_pieceOf; rw [sg_pc_some o4 hh]; exact congrArg (fun y => (y, K)) (pof_in2 ex l5)) hK dk_fr.rf
    · skip
      refine w_if_ne (n := 18) 20 dX12_pieceOf_15 (by decide) rfl (fun h => absurd h (by decide)) (fun _ => ?_)
      refine w_iconst (n := 19) (-1) dX12_pieceOf_18 (by decide) rfl ?_
      refine w_retI dX12_pieceOf_19 rfl ?_
      first | exact dk_fin hq (by unfold kf_pieceOf; rw [sg_pc_none o4 nh]) hK dk_fr.rf | exact dk_fin hq (by unfold kf_pieceOf; rw [sg_pc_some o4 hh]; exact congrArg (fun y => (y, K)) (pof_out (fun z => t12 z))) hK dk_fr.rf
  · skip
    refine w_if_eq (n := 8) 18 dX12_pieceOf_5 (by decide) rfl (fun _ => ?_) (fun h => absurd (by decide) h)
    refine w_iconst (n := 19) (-1) dX12_pieceOf_18 (by decide) rfl ?_
    refine w_retI dX12_pieceOf_19 rfl ?_
    first | exact dk_fin hq (by unfold kf_pieceOf; rw [sg_pc_none o4 nh]) hK dk_fr.rf | exact dk_fin hq (by unfold kf_pieceOf; rw [sg_pc_some o4 hh]; exact congrArg (fun y => (y, K)) (pof_out (fun z => t12 z))) hK dk_fr.rf

set_option maxRecDepth 20000 in
theorem R_change {d : Nat} {M : dk_Mem} {Q : Option Value → dk_Mem → Prop} {K : sg_K} (hK : rK K M) {k x v : Int32} (hq : ∀ M2, rK (kf_change K k x v).2 M2 → dk_fr rA M M2 → Q (some (.int (kf_change K k x v).1)) M2) : dk_Call (d + 3) mX12_change [.ref 104, .int k, .int x, .int v] M Q := by
  have hK0 := hK
  obtain ⟨⟨o, p1, p2, p3⟩, hr, ⟨f, hb, hT⟩, hsc, hz⟩ := hK0
  have o4 := o.2.2.2.1
  refine dk_enter [some (.ref 104), some (.int k), some (.int x), some (.int v)] (by decide) (fun _ => rfl) (fun _ => Nat.le_of_ble_eq_true rfl) ?_
  refine w_al0 (n := 1) dX12_change_0 rfl ?_
  refine w_il1 (n := 2) dX12_change_1 rfl ?_
  refine w_cV1 (n := 5) pl_104 cl_12 s0_X12_isPiece k_X12_109 (Nat.le_of_ble_eq_true rfl) dX12_change_2 rfl (r_isPiece hr o (fun h hh e => ?_) (fun nh => ?_))
  · skip
    subst e
    have h6 : h < 6 := by omega
    refine w_if_eq (n := 8) 32 dX12_change_5 (by decide) rfl (fun h => absurd h (by decide)) (fun _ => ?_)
    refine w_il2 (n := 9) dX12_change_8 rfl ?_
    refine w_il3 (n := 10) dX12_change_9 rfl ?_
    refine w_cS2 (n := 13) s0_X12_isOf k_X12_101 (Nat.le_of_ble_eq_true rfl) dX12_change_10 rfl (r_isOf (fun t10 => ?_) (fun t10 => ?_))
    · skip
      refine w_if_eq (n := 16) 32 dX12_change_13 (by decide) rfl (fun h => absurd h (by decide)) (fun _ => ?_)
      refine w_al0 (n := 17) dX12_change_16 rfl ?_
      refine w_bipush (n := 19) (nI 35) dX12_change_17 (by decide) rfl ?_
      refine w_iconst (n := 20) (nI 5) dX12_change_19 (by decide) rfl ?_
      refine w_il1 (n := 21) dX12_change_20 rfl ?_
      refine w_imul (n := 22) dX12_change_21 rfl ?_
      refine w_iadd (n := 23) dX12_change_22 rfl ?_
      refine w_il2 (n := 24) dX12_change_23 rfl ?_
      refine w_iadd (n := 25) dX12_change_24 rfl ?_
      refine w_il3 (n := 26) dX12_change_25 rfl ?_
      have hx : tN x ≤ 4 ∧ 1 ≤ tN x ∧ x = nI (tN x) := by rcases t10 with z | z | z | z <;> (rw [z.1]; decide)
      have hv : v = nI (tN v) ∧ tN v ≤ 99 := by
        rcases t10 with z | z | z | z
        · exact tN_of (by decide) z.2.1 z.2.2
        · have := tN_of (n := 9) (by decide) z.2.1 z.2.2; exact ⟨this.1, by omega⟩
        · have := tN_of (n := 5) (by decide) z.2.1 z.2.2; exact ⟨this.1, by omega⟩
        · have := tN_of (n := 1) (by decide) z.2.1 z.2.2; exact ⟨this.1, by omega⟩
      have ei : nI 35 + nI 5 * nI h + x = nI (35 + 5 * h + tN x) := by
        have e9 := hx.2.2
        generalize tN x = y at e9
        rw [e9]; simp only [pk_mul, nI_add]
      rw [ei]
      refine w_cV2 (n := 29) pl_104 cl_12 s0_X12_becomes k_X12_118 (Nat.le_of_ble_eq_true rfl) dX12_change_26 rfl (r_becomes (by omega) (hr _ (by omega) (by omega) (by omega)) ?_)
      refine w_goto 33 dX12_change_29 (by decide) ?_
      refine w_retI dX12_change_33 rfl ?_
      refine dk_fin hq (by unfold kf_change; rw [sg_pc_some o4 hh]; exact if_pos t10) ?_ rA_p
      have k1 := hK.up (j := 35 + 5 * h + tN x) (v := tN v) ?_ (by omega) (by omega) (by omega) (by omega)
      · rw [← hv.1] at k1; exact k1
      · rcases t10 with z | z | z | z
        · rw [z.1, show 35 + 5 * h + tN (nI 1) = 36 + 5 * h from by rw [tN_nI (by decide)]; omega]; exact hK.1.u_lean h6 hv.2
        · rw [z.1, show 35 + 5 * h + tN (nI 2) = 37 + 5 * h from by rw [tN_nI (by decide)]; omega]; exact hK.1.u_gap h6 (tN_of (n := 9) (by decide) z.2.1 z.2.2).2
        · rw [z.1, show 35 + 5 * h + tN (nI 3) = 38 + 5 * h from by rw [tN_nI (by decide)]; omega]; exact hK.1.u_room h6 (tN_of (n := 5) (by decide) z.2.1 z.2.2).2
        · rw [z.1, show 35 + 5 * h + tN (nI 4) = 39 + 5 * h from by rw [tN_nI (by decide)]; omega]; exact hK.1.u_fal h6 (tN_of (n := 1) (by decide) z.2.1 z.2.2).2
    · skip
      refine w_if_eq (n := 16) 32 dX12_change_13 (by decide) rfl (fun _ => ?_) (fun h => absurd (by decide) h)
      refine w_iconst (n := 33) (-1) dX12_change_32 (by decide) rfl ?_
      refine w_retI dX12_change_33 rfl ?_
      first | exact dk_fin hq (by unfold kf_change; rw [sg_pc_none o4 nh]) hK dk_fr.rf | exact dk_fin hq (by unfold kf_change; rw [sg_pc_some o4 hh]; exact if_neg t10) hK dk_fr.rf
  · skip
    refine w_if_eq (n := 8) 32 dX12_change_5 (by decide) rfl (fun _ => ?_) (fun h => absurd (by decide) h)
    refine w_iconst (n := 33) (-1) dX12_change_32 (by decide) rfl ?_
    refine w_retI dX12_change_33 rfl ?_
    first | exact dk_fin hq (by unfold kf_change; rw [sg_pc_none o4 nh]) hK dk_fr.rf | exact dk_fin hq (by unfold kf_change; rw [sg_pc_some o4 hh]; exact if_neg t10) hK dk_fr.rf

set_option maxRecDepth 20000 in
theorem R_remake {d : Nat} {M : dk_Mem} {Q : Option Value → dk_Mem → Prop} {K : sg_K} (hK : rK K M) {k v : Int32} (hq : ∀ M2, rK (kf_remake K k v).2 M2 → dk_fr rA M M2 → Q (some (.int (kf_remake K k v).1)) M2) : dk_Call (d + 3) mX12_remake [.ref 104, .int k, .int v] M Q := by
  have hK0 := hK
  obtain ⟨⟨o, p1, p2, p3⟩, hr, ⟨f, hb, hT⟩, hsc, hz⟩ := hK0
  have o4 := o.2.2.2.1
  refine dk_enter [some (.ref 104), some (.int k), some (.int v)] (by decide) (fun _ => rfl) (fun _ => Nat.le_of_ble_eq_true rfl) ?_
  refine w_al0 (n := 1) dX12_remake_0 rfl ?_
  refine w_il1 (n := 2) dX12_remake_1 rfl ?_
  refine w_cV1 (n := 5) pl_104 cl_12 s0_X12_isPiece k_X12_109 (Nat.le_of_ble_eq_true rfl) dX12_remake_2 rfl (r_isPiece hr o (fun h hh e => ?_) (fun nh => ?_))
  · skip
    subst e
    have h6 : h < 6 := by omega
    refine w_if_eq (n := 8) 31 dX12_remake_5 (by decide) rfl (fun h => absurd h (by decide)) (fun _ => ?_)
    refine w_il2 (n := 9) dX12_remake_8 rfl ?_
    refine w_iconst (n := 10) (nI 1) dX12_remake_9 (by decide) rfl ?_
    refine w_iconst (n := 11) (nI 5) dX12_remake_10 (by decide) rfl ?_
    refine w_cS3 (n := 14) s0_X12_in k_X12_61 (Nat.le_of_ble_eq_true rfl) dX12_remake_11 rfl (r_in (fun t11 => ?_) (fun t11 => ?_))
    · skip
      refine w_if_eq (n := 17) 31 dX12_remake_14 (by decide) rfl (fun h => absurd h (by decide)) (fun _ => ?_)
      refine w_al0 (n := 18) dX12_remake_17 rfl ?_
      refine w_bipush (n := 20) (nI 35) dX12_remake_18 (by decide) rfl ?_
      refine w_iconst (n := 21) (nI 5) dX12_remake_20 (by decide) rfl ?_
      refine w_il1 (n := 22) dX12_remake_21 rfl ?_
      refine w_imul (n := 23) dX12_remake_22 rfl ?_
      refine w_iadd (n := 24) dX12_remake_23 rfl ?_
      refine w_il2 (n := 25) dX12_remake_24 rfl ?_
      have hv := tN_of (n := 5) (by decide) (Int32.le_trans (by decide) t11.1) t11.2
      rw [pk_mul, nI_add]
      refine w_cV2 (n := 28) pl_104 cl_12 s0_X12_becomes k_X12_118 (Nat.le_of_ble_eq_true rfl) dX12_remake_25 rfl (r_becomes (by omega) (hr _ (by omega) (by omega) (by omega)) ?_)
      refine w_goto 32 dX12_remake_28 (by decide) ?_
      refine w_retI dX12_remake_32 rfl ?_
      refine dk_fin hq (by unfold kf_remake; rw [sg_pc_some o4 hh]; exact if_pos t11) ?_ rA_p
      have k1 := hK.up (j := 35 + 5 * h) (v := tN v) (hK.1.u_kind h6 hv.2) (by omega) (by omega) (by omega) (by omega)
      rw [← hv.1] at k1
      exact k1
    · skip
      refine w_if_eq (n := 17) 31 dX12_remake_14 (by decide) rfl (fun _ => ?_) (fun h => absurd (by decide) h)
      refine w_iconst (n := 32) (-1) dX12_remake_31 (by decide) rfl ?_
      refine w_retI dX12_remake_32 rfl ?_
      first | exact dk_fin hq (by unfold kf_remake; rw [sg_pc_none o4 nh]) hK dk_fr.rf | exact dk_fin hq (by unfold kf_remake; rw [sg_pc_some o4 hh]; exact if_neg t11) hK dk_fr.rf
  · skip
    refine w_if_eq (n := 8) 31 dX12_remake_5 (by decide) rfl (fun _ => ?_) (fun h => absurd (by decide) h)
    refine w_iconst (n := 32) (-1) dX12_remake_31 (by decide) rfl ?_
    refine w_retI dX12_remake_32 rfl ?_
    first | exact dk_fin hq (by unfold kf_remake; rw [sg_pc_none o4 nh]) hK dk_fr.rf | exact dk_fin hq (by unfold kf_remake; rw [sg_pc_some o4 hh]; exact if_neg t11) hK dk_fr.rf

set_option maxRecDepth 20000 in
theorem R_saying {d : Nat} {M : dk_Mem} {Q : Option Value → dk_Mem → Prop} {K : sg_K} (hK : rK K M) {y v : Int32} (hq : ∀ M2, rK (kf_saying K y v).2 M2 → dk_fr rA M M2 → Q (some (.int (kf_saying K y v).1)) M2) : dk_Call (d + 3) mX12_saying [.ref 104, .int y, .int v] M Q := by
  have hK0 := hK
  obtain ⟨⟨o, p1, p2, p3⟩, hr, ⟨f, hb, hT⟩, hsc, hz⟩ := hK0
  have o4 := o.2.2.2.1
  refine dk_enter [some (.ref 104), some (.int y), some (.int v)] (by decide) (fun _ => rfl) (fun _ => Nat.le_of_ble_eq_true rfl) ?_
  refine w_il1 (n := 1) dX12_saying_0 rfl ?_
  refine w_iconst (n := 2) (nI 0) dX12_saying_1 (by decide) rfl ?_
  refine w_bipush (n := 4) (nI 15) dX12_saying_2 (by decide) rfl ?_
  refine w_cS3 (n := 7) s0_X12_in k_X12_61 (Nat.le_of_ble_eq_true rfl) dX12_saying_4 rfl (r_in (fun t4 => ?_) (fun t4 => ?_))
  · skip
    refine w_if_eq (n := 10) 32 dX12_saying_7 (by decide) rfl (fun h => absurd h (by decide)) (fun _ => ?_)
    refine w_il2 (n := 11) dX12_saying_10 rfl ?_
    refine w_iconst (n := 12) (nI 0) dX12_saying_11 (by decide) rfl ?_
    refine w_bipush (n := 14) (nI 15) dX12_saying_12 (by decide) rfl ?_
    refine w_cS3 (n := 17) s0_X12_in k_X12_61 (Nat.le_of_ble_eq_true rfl) dX12_saying_14 rfl (r_in (fun t14 => ?_) (fun t14 => ?_))
    · skip
      refine w_if_eq (n := 20) 32 dX12_saying_17 (by decide) rfl (fun h => absurd h (by decide)) (fun _ => ?_)
      refine w_al0 (n := 21) dX12_saying_20 rfl ?_
      refine w_bipush (n := 23) (nI 7) dX12_saying_21 (by decide) rfl ?_
      refine w_il1 (n := 24) dX12_saying_23 rfl ?_
      refine w_iadd (n := 25) dX12_saying_24 rfl ?_
      refine w_il2 (n := 26) dX12_saying_25 rfl ?_
      have hy := tN_of (n := 15) (by decide) t4.1 t4.2
      have hv := tN_of (n := 15) (by decide) t14.1 t14.2
      have ei : nI 7 + y = nI (7 + tN y) := by
        have e9 := hy.1
        generalize tN y = u at e9
        rw [e9, nI_add]
      rw [ei]
      refine w_cV2 (n := 29) pl_104 cl_12 s0_X12_becomes k_X12_118 (Nat.le_of_ble_eq_true rfl) dX12_saying_26 rfl (r_becomes (by omega) (hr _ (by omega) (by omega) (by omega)) ?_)
      refine w_goto 33 dX12_saying_29 (by decide) ?_
      refine w_retI dX12_saying_33 rfl ?_
      refine dk_fin hq (if_pos ⟨t4, t14⟩) ?_ rA_p
      have k1 := hK.up (j := 7 + tN y) (v := tN v) (hK.1.u_say (by omega) hv.2) (by omega) (by omega) (by omega) (by omega)
      rw [← hv.1] at k1
      exact k1
    · skip
      refine w_if_eq (n := 20) 32 dX12_saying_17 (by decide) rfl (fun _ => ?_) (fun h => absurd (by decide) h)
      refine w_iconst (n := 33) (-1) dX12_saying_32 (by decide) rfl ?_
      refine w_retI dX12_saying_33 rfl ?_
      exact dk_fin hq (if_neg (fun z => by first | exact t4 z.1 | exact t14 z.2)) hK dk_fr.rf
  · skip
    refine w_if_eq (n := 10) 32 dX12_saying_7 (by decide) rfl (fun _ => ?_) (fun h => absurd (by decide) h)
    refine w_iconst (n := 33) (-1) dX12_saying_32 (by decide) rfl ?_
    refine w_retI dX12_saying_33 rfl ?_
    exact dk_fin hq (if_neg (fun z => by first | exact t4 z.1 | exact t14 z.2)) hK dk_fr.rf

set_option maxRecDepth 20000 in
theorem R_room {d : Nat} {M : dk_Mem} {Q : Option Value → dk_Mem → Prop} {K : sg_K} (hK : rK K M) {f0 x v : Int32} (hq : ∀ M2, rK (kf_room K f0 x v).2 M2 → dk_fr rA M M2 → Q (some (.int (kf_room K f0 x v).1)) M2) : dk_Call (d + 3) mX12_room [.ref 104, .int f0, .int x, .int v] M Q := by
  have hK0 := hK
  obtain ⟨⟨o, p1, p2, p3⟩, hr, ⟨f, hb, hT⟩, hsc, hz⟩ := hK0
  have o4 := o.2.2.2.1
  refine dk_enter [some (.ref 104), some (.int f0), some (.int x), some (.int v)] (by decide) (fun _ => rfl) (fun _ => Nat.le_of_ble_eq_true rfl) ?_
  refine w_il1 (n := 1) dX12_room_0 rfl ?_
  refine w_cS1 (n := 4) s0_X12_isRoom k_X12_97 (Nat.le_of_ble_eq_true rfl) dX12_room_1 rfl (r_isRoom (fun t1 => ?_) (fun t1 => ?_))
  · skip
    refine w_if_eq (n := 7) 42 dX12_room_4 (by decide) rfl (fun h => absurd h (by decide)) (fun _ => ?_)
    refine w_il2 (n := 8) dX12_room_7 rfl ?_
    refine w_iconst (n := 9) (nI 0) dX12_room_8 (by decide) rfl ?_
    refine w_iconst (n := 10) (nI 1) dX12_room_9 (by decide) rfl ?_
    refine w_cS3 (n := 13) s0_X12_in k_X12_61 (Nat.le_of_ble_eq_true rfl) dX12_room_10 rfl (r_in (fun t10 => ?_) (fun t10 => ?_))
    · skip
      refine w_if_eq (n := 16) 42 dX12_room_13 (by decide) rfl (fun h => absurd h (by decide)) (fun _ => ?_)
      refine w_il3 (n := 17) dX12_room_16 rfl ?_
      refine w_iconst (n := 18) (nI 0) dX12_room_17 (by decide) rfl ?_
      refine w_bipush (n := 20) (nI 9) dX12_room_18 (by decide) rfl ?_
      refine w_cS3 (n := 23) s0_X12_in k_X12_61 (Nat.le_of_ble_eq_true rfl) dX12_room_20 rfl (r_in (fun t20 => ?_) (fun t20 => ?_))
      · skip
        refine w_if_eq (n := 26) 42 dX12_room_23 (by decide) rfl (fun h => absurd h (by decide)) (fun _ => ?_)
        refine w_al0 (n := 27) dX12_room_26 rfl ?_
        refine w_bipush (n := 29) (nI 23) dX12_room_27 (by decide) rfl ?_
        refine w_iconst (n := 30) (nI 2) dX12_room_29 (by decide) rfl ?_
        refine w_il1 (n := 31) dX12_room_30 rfl ?_
        refine w_imul (n := 32) dX12_room_31 rfl ?_
        refine w_iadd (n := 33) dX12_room_32 rfl ?_
        refine w_il2 (n := 34) dX12_room_33 rfl ?_
        refine w_iadd (n := 35) dX12_room_34 rfl ?_
        refine w_il3 (n := 36) dX12_room_35 rfl ?_
        have hf := tN_of (n := 5) (by decide) t1.1 t1.2
        have hx := tN_of (n := 1) (by decide) t10.1 t10.2
        have ei : nI 23 + nI 2 * f0 + x = nI (23 + 2 * tN f0 + tN x) := by
          have e8 := hf.1
          have e9 := hx.1
          generalize tN f0 = u at e8
          generalize tN x = u2 at e9
          rw [e8, e9]; simp only [pk_mul, nI_add]
        rw [ei]
        have hv := tN_of (n := 9) (by decide) t20.1 t20.2
        refine w_cV2 (n := 39) pl_104 cl_12 s0_X12_becomes k_X12_118 (Nat.le_of_ble_eq_true rfl) dX12_room_36 rfl (r_becomes (by omega) (hr _ (by omega) (by omega) (by omega)) ?_)
        refine w_goto 43 dX12_room_39 (by decide) ?_
        refine w_retI dX12_room_43 rfl ?_
        refine dk_fin hq (if_pos ⟨t1, t10, t20⟩) ?_ rA_p
        have k1 := hK.up (j := 23 + 2 * tN f0 + tN x) (v := tN v) ?_ (by omega) (by omega) (by omega) (by omega)
        · rw [← hv.1] at k1; exact k1
        · rw [show 23 + 2 * tN f0 + tN x = 23 + (2 * tN f0 + tN x) by omega]; exact hK.1.u_rom (by omega) hv.2
      · skip
        refine w_if_eq (n := 26) 42 dX12_room_23 (by decide) rfl (fun _ => ?_) (fun h => absurd (by decide) h)
        refine w_iconst (n := 43) (-1) dX12_room_42 (by decide) rfl ?_
        refine w_retI dX12_room_43 rfl ?_
        exact dk_fin hq (if_neg (fun z => by first | exact t1 z.1 | exact t10 z.2.1 | exact t20 z.2.2)) hK dk_fr.rf
    · skip
      refine w_if_eq (n := 16) 42 dX12_room_13 (by decide) rfl (fun _ => ?_) (fun h => absurd (by decide) h)
      refine w_iconst (n := 43) (-1) dX12_room_42 (by decide) rfl ?_
      refine w_retI dX12_room_43 rfl ?_
      exact dk_fin hq (if_neg (fun z => by first | exact t1 z.1 | exact t10 z.2.1 | exact t20 z.2.2)) hK dk_fr.rf
  · skip
    refine w_if_eq (n := 7) 42 dX12_room_4 (by decide) rfl (fun _ => ?_) (fun h => absurd (by decide) h)
    refine w_iconst (n := 43) (-1) dX12_room_42 (by decide) rfl ?_
    refine w_retI dX12_room_43 rfl ?_
    exact dk_fin hq (if_neg (fun z => by first | exact t1 z.1 | exact t10 z.2.1 | exact t20 z.2.2)) hK dk_fr.rf

set_option maxRecDepth 20000 in
theorem R_roomOf {d : Nat} {M : dk_Mem} {Q : Option Value → dk_Mem → Prop} {K : sg_K} (hK : rK K M) {f0 x : Int32} (hq : ∀ M2, rK (kf_roomOf K f0 x).2 M2 → dk_fr rA M M2 → Q (some (.int (kf_roomOf K f0 x).1)) M2) : dk_Call (d + 3) mX12_roomOf [.ref 104, .int f0, .int x] M Q := by
  have hK0 := hK
  obtain ⟨⟨o, p1, p2, p3⟩, hr, ⟨f, hb, hT⟩, hsc, hz⟩ := hK0
  have o4 := o.2.2.2.1
  refine dk_enter [some (.ref 104), some (.int f0), some (.int x)] (by decide) (fun _ => rfl) (fun _ => Nat.le_of_ble_eq_true rfl) ?_
  refine w_il1 (n := 1) dX12_roomOf_0 rfl ?_
  refine w_cS1 (n := 4) s0_X12_isRoom k_X12_97 (Nat.le_of_ble_eq_true rfl) dX12_roomOf_1 rfl (r_isRoom (fun t1 => ?_) (fun t1 => ?_))
  · skip
    refine w_if_eq (n := 7) 32 dX12_roomOf_4 (by decide) rfl (fun h => absurd h (by decide)) (fun _ => ?_)
    refine w_il2 (n := 8) dX12_roomOf_7 rfl ?_
    refine w_iconst (n := 9) (nI 0) dX12_roomOf_8 (by decide) rfl ?_
    refine w_iconst (n := 10) (nI 1) dX12_roomOf_9 (by decide) rfl ?_
    refine w_cS3 (n := 13) s0_X12_in k_X12_61 (Nat.le_of_ble_eq_true rfl) dX12_roomOf_10 rfl (r_in (fun t10 => ?_) (fun t10 => ?_))
    · skip
      refine w_if_eq (n := 16) 32 dX12_roomOf_13 (by decide) rfl (fun h => absurd h (by decide)) (fun _ => ?_)
      refine w_al0 (n := 17) dX12_roomOf_16 rfl ?_
      refine g_R (n := 20) f_X12_9_12 pl_104 rf_104_0 dX12_roomOf_17 rfl ?_
      refine w_bipush (n := 22) (nI 23) dX12_roomOf_20 (by decide) rfl ?_
      refine w_iconst (n := 23) (nI 2) dX12_roomOf_22 (by decide) rfl ?_
      refine w_il1 (n := 24) dX12_roomOf_23 rfl ?_
      refine w_imul (n := 25) dX12_roomOf_24 rfl ?_
      refine w_iadd (n := 26) dX12_roomOf_25 rfl ?_
      refine w_il2 (n := 27) dX12_roomOf_26 rfl ?_
      refine w_iadd (n := 28) dX12_roomOf_27 rfl ?_
      have hf := tN_of (n := 5) (by decide) t1.1 t1.2
      have hx := tN_of (n := 1) (by decide) t10.1 t10.2
      have ei : nI 23 + nI 2 * f0 + x = nI (23 + 2 * tN f0 + tN x) := by
        have e8 := hf.1
        have e9 := hx.1
        generalize tN f0 = u at e8
        generalize tN x = u2 at e9
        rw [e8, e9]; simp only [pk_mul, nI_add]
      rw [ei]
      refine i_iald (n := 29) pl_105 (j := 23 + 2 * tN f0 + tN x) rfl (by omega) (by decide) (hr _ (by omega) (by omega) (by omega)) dX12_roomOf_28 rfl ?_
      refine w_goto 33 dX12_roomOf_29 (by decide) ?_
      refine w_retI dX12_roomOf_33 rfl ?_
      exact dk_fin hq (if_pos ⟨t1, t10⟩) hK dk_fr.rf
    · skip
      refine w_if_eq (n := 16) 32 dX12_roomOf_13 (by decide) rfl (fun _ => ?_) (fun h => absurd (by decide) h)
      refine w_iconst (n := 33) (-1) dX12_roomOf_32 (by decide) rfl ?_
      refine w_retI dX12_roomOf_33 rfl ?_
      exact dk_fin hq (if_neg (fun z => by first | exact t1 z.1 | exact t10 z.2)) hK dk_fr.rf
  · skip
    refine w_if_eq (n := 7) 32 dX12_roomOf_4 (by decide) rfl (fun _ => ?_) (fun h => absurd (by decide) h)
    refine w_iconst (n := 33) (-1) dX12_roomOf_32 (by decide) rfl ?_
    refine w_retI dX12_roomOf_33 rfl ?_
    exact dk_fin hq (if_neg (fun z => by first | exact t1 z.1 | exact t10 z.2)) hK dk_fr.rf

set_option maxRecDepth 20000 in
theorem R_ends {d : Nat} {M : dk_Mem} {Q : Option Value → dk_Mem → Prop} {K : sg_K} (hK : rK K M) {v : Int32} (hq : ∀ M2, rK (kf_ends K v).2 M2 → dk_fr rA M M2 → Q (some (.int (kf_ends K v).1)) M2) : dk_Call (d + 3) mX12_ends [.ref 104, .int v] M Q := by
  have hK0 := hK
  obtain ⟨⟨o, p1, p2, p3⟩, hr, ⟨f, hb, hT⟩, hsc, hz⟩ := hK0
  have o4 := o.2.2.2.1
  refine dk_enter [some (.ref 104), some (.int v)] (by decide) (fun _ => rfl) (fun _ => Nat.le_of_ble_eq_true rfl) ?_
  refine w_il1 (n := 1) dX12_ends_0 rfl ?_
  refine w_iconst (n := 2) (nI 1) dX12_ends_1 (by decide) rfl ?_
  refine w_bipush (n := 4) (nI 16) dX12_ends_2 (by decide) rfl ?_
  refine w_cS3 (n := 7) s0_X12_in k_X12_61 (Nat.le_of_ble_eq_true rfl) dX12_ends_4 rfl (r_in (fun t4 => ?_) (fun t4 => ?_))
  · skip
    refine w_if_ne (n := 10) 12 dX12_ends_7 (by decide) rfl (fun _ => ?_) (fun h => absurd h (by decide))
    refine w_il1 (n := 13) dX12_ends_12 rfl ?_
    refine w_al0 (n := 14) dX12_ends_13 rfl ?_
    refine g_R (n := 17) f_X12_9_12 pl_104 rf_104_0 dX12_ends_14 rfl ?_
    refine w_iconst (n := 18) (nI 1) dX12_ends_17 (by decide) rfl ?_
    refine i_iald (n := 19) pl_105 (j := 1) rfl (by decide) (by decide) (hr 1 (by decide) (by decide) (by decide)) dX12_ends_18 rfl ?_
    refine w_ic_ge (n := 22) 27 dX12_ends_19 (by decide) rfl (fun z19 => ?_) (fun z19 => ?_)
    · skip
      refine w_al0 (n := 28) dX12_ends_27 rfl ?_
      refine w_iconst (n := 29) (nI 0) dX12_ends_28 (by decide) rfl ?_
      refine w_il1 (n := 30) dX12_ends_29 rfl ?_
      have hv := tN_of (n := 16) (by decide) (Int32.le_trans (by decide) t4.1) t4.2
      have b9 := o.2.1
      refine w_cV2 (n := 33) pl_104 cl_12 s0_X12_becomes k_X12_118 (Nat.le_of_ble_eq_true rfl) dX12_ends_30 rfl (r_becomes (j := 0) (by decide) (hr 0 (by decide) (by decide) (by decide)) ?_)
      refine w_retI dX12_ends_33 rfl ?_
      refine dk_fin hq (by unfold kf_ends; rw [if_pos t4, if_neg (Int32.not_lt.mpr z19)]) ?_ rA_p
      have v1 : nI 1 ≤ nI (tN v) := by rw [← hv.1]; exact t4.1
      have z9 : nI (K.1 1) ≤ nI (tN v) := by rw [← hv.1]; exact z19
      rw [q_le (by omega) (by omega)] at v1 z9
      have k1 := hK.up (j := 0) (v := tN v) (hK.1.u_end v1 hv.2 z9) (by omega) (by omega) (by omega) (by omega)
      rw [← hv.1] at k1
      exact k1
    · skip
      refine w_bipush (n := 24) (-4) dX12_ends_22 (by decide) rfl ?_
      refine w_goto 33 dX12_ends_24 (by decide) ?_
      refine w_retI dX12_ends_33 rfl ?_
      exact dk_fin hq (by unfold kf_ends; rw [if_pos t4, if_pos (Int32.not_le.mp z19)]) hK dk_fr.rf
  · skip
    refine w_if_ne (n := 10) 12 dX12_ends_7 (by decide) rfl (fun h => absurd h (by decide)) (fun _ => ?_)
    refine w_iconst (n := 11) (-1) dX12_ends_10 (by decide) rfl ?_
    refine w_retI dX12_ends_11 rfl ?_
    exact dk_fin hq (if_neg t4) hK dk_fr.rf
