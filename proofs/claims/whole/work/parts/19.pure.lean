/-! ===== the street as numbers: what the years do to it (the places are the reference's own) ===== -/
def sg_up (σ : Nat → Nat) (k v : Nat) : Nat → Nat := fun j => if j = k then v else σ j
theorem sg_up_s {σ : Nat → Nat} {k v : Nat} : sg_up σ k v k = v := if_pos rfl
theorem sg_up_n {σ : Nat → Nat} {k v j : Nat} (h : j ≠ k) : sg_up σ k v j = σ j := if_neg h
def sg_sy (σ : Nat → Nat) (y : Nat) : Nat := if y < 16 then σ (7 + y) else 0
def sg_wd (σ : Nat → Nat) : Nat := sg_sy σ (σ 1) / 4
def sg_hs (σ : Nat → Nat) : Nat := sg_sy σ (σ 1) % 4
def sg_ln (k w h y : Nat) : Nat := if k = 1 then 1 else if k = 2 then 4 + 2 * w else if k = 3 then 4 + 2 * w + y / 6 else if k = 4 then 2 + w - h else if k = 5 then (if y % 2 = 1 then 0 else 2 + w - h) else 2 + w
def sg_br (k g n : Nat) : Nat := if k = 1 then 95 else if k = 2 then 32 - 2 * g else if k = 3 then 32 - g else if k = 4 then 50 - 2 * g else if k = 5 then 50 - 2 * g + n else 40 - 2 * g
def sg_leans (σ : Nat → Nat) (h : Nat) : Nat := sg_ln (σ (35 + 5 * h)) (sg_wd σ) (sg_hs σ) (σ 1)
def sg_bears (σ : Nat → Nat) (h : Nat) : Nat := sg_br (σ (35 + 5 * h)) (σ (37 + 5 * h)) h
def sg_pays (σ : Nat → Nat) (h : Nat) : Nat := if σ (39 + 5 * h) = 0 ∧ sg_bears σ h ≤ σ (36 + 5 * h) + 6 * sg_wd σ then 4 + σ (37 + 5 * h) else 0
/-- what THE RULES tell, by KIND, YEAR, LEAN, GAP, WORD, number -/
abbrev sg_R : Type := Nat → Nat → Nat → Nat → Nat → Nat → Nat
def sg_does (w : sg_R) (σ : Nat → Nat) (h : Nat) : Nat := w (σ (35 + 5 * h)) (σ 1) (σ (36 + 5 * h)) (σ (37 + 5 * h)) (sg_wd σ) h
def sg_may (w : sg_R) (σ : Nat → Nat) (h : Nat) : Prop := 0 < sg_pays σ h ∧ sg_does w σ h = 0
def sg_f1 (σ : Nat → Nat) (nx k : Nat) : Nat → Nat := if σ (39 + 5 * k) = 0 ∧ σ (38 + 5 * k) = nx then sg_up σ (36 + 5 * k) (min 99 (σ (36 + 5 * k) + 12 + σ (23 + 2 * nx))) else σ
def sg_fl (σ : Nat → Nat) (nx : Nat) : Nat → (Nat → Nat)
  | 0 => σ
  | n + 1 => sg_f1 (sg_fl σ nx n) nx n
def sg_falls (σ : Nat → Nat) (h : Nat) : Nat → Nat := sg_fl (sg_up σ (39 + 5 * h) 1) (σ (38 + 5 * h) + 1) (σ 4)
def sg_tells (w : sg_R) (σ : Nat → Nat) (h : Nat) : (Nat → Nat) × Nat :=
  if sg_does w σ h = 2 then (sg_up σ (36 + 5 * h) (σ (36 + 5 * h) - 10 - σ (24 + 2 * σ (38 + 5 * h))), if 1 < sg_hs σ then 1 else 0)
  else if sg_does w σ h = 0 ∧ 0 < sg_pays σ h then (sg_falls σ h, sg_pays σ h) else (σ, 0)
def sg_tip (σ : Nat → Nat) : Nat → Nat
  | 0 => 0
  | n + 1 => sg_tip σ n + if σ (39 + 5 * n) = 0 ∧ sg_bears σ n + 12 ≤ σ (36 + 5 * n) then 2 ^ n else 0
def sg_l2 (σ : Nat → Nat) (set : Nat) : Nat → (Nat → Nat) × Nat
  | 0 => (σ, 0)
  | n + 1 => if set.testBit n then (sg_falls (sg_l2 σ set n).1 n, (sg_l2 σ set n).2 + 1) else sg_l2 σ set n
def sg_g3 (σ : Nat → Nat) (k : Nat) : Nat → Nat := if σ (39 + 5 * k) = 0 then sg_up σ (36 + 5 * k) (min 99 (σ (36 + 5 * k) + sg_leans σ k)) else σ
def sg_l3 (σ : Nat → Nat) : Nat → (Nat → Nat)
  | 0 => σ
  | n + 1 => sg_g3 (sg_l3 σ n) n
def sg_told (w : sg_R) (σ : Nat → Nat) (t : Option Nat) : (Nat → Nat) × Nat := match t with
  | none => (σ, 0)
  | some h => if σ (39 + 5 * h) = 0 then sg_tells w σ h else (σ, 0)
def sg_mid (w : sg_R) (σ : Nat → Nat) (t : Option Nat) : (Nat → Nat) × Nat := sg_l2 (sg_told w σ t).1 (sg_tip (sg_told w σ t).1 (σ 4)) (σ 4)
/-- a YEAR: the street behind it, what it was WORTH -/
def sg_goes (w : sg_R) (σ : Nat → Nat) (t : Option Nat) : (Nat → Nat) × Nat :=
  (sg_up (sg_l3 (sg_mid w σ t).1 (σ 4)) 1 (σ 1 + 1), (sg_told w σ t).2 + (sg_mid w σ t).2)
def sg_ok (σ : Nat → Nat) : Prop := 1 ≤ σ 0 ∧ σ 0 ≤ 16 ∧ σ 1 ≤ 16 ∧ σ 4 ≤ 6 ∧ σ 5 ≤ 6 ∧ (∀ y, y < 16 → σ (7 + y) ≤ 15) ∧ (∀ j, j < 12 → σ (23 + j) ≤ 9) ∧ ∀ h, h < 6 → σ (35 + 5 * h) ≤ 5 ∧ σ (36 + 5 * h) ≤ 99 ∧ σ (37 + 5 * h) ≤ 9 ∧ σ (38 + 5 * h) ≤ 5 ∧ σ (39 + 5 * h) ≤ 1
theorem sg_ok.kind {σ : Nat → Nat} (o : sg_ok σ) {h : Nat} (hh : h < 6) : σ (35 + 5 * h) ≤ 5 := (o.2.2.2.2.2.2.2 h hh).1
theorem sg_ok.lean {σ : Nat → Nat} (o : sg_ok σ) {h : Nat} (hh : h < 6) : σ (36 + 5 * h) ≤ 99 := (o.2.2.2.2.2.2.2 h hh).2.1
theorem sg_ok.gap {σ : Nat → Nat} (o : sg_ok σ) {h : Nat} (hh : h < 6) : σ (37 + 5 * h) ≤ 9 := (o.2.2.2.2.2.2.2 h hh).2.2.1
theorem sg_ok.room {σ : Nat → Nat} (o : sg_ok σ) {h : Nat} (hh : h < 6) : σ (38 + 5 * h) ≤ 5 := (o.2.2.2.2.2.2.2 h hh).2.2.2.1
theorem sg_ok.fal {σ : Nat → Nat} (o : sg_ok σ) {h : Nat} (hh : h < 6) : σ (39 + 5 * h) ≤ 1 := (o.2.2.2.2.2.2.2 h hh).2.2.2.2
theorem sg_ok.sy {σ : Nat → Nat} (o : sg_ok σ) (y : Nat) : sg_sy σ y ≤ 15 := by
  unfold sg_sy
  split
  · exact o.2.2.2.2.2.1 y (by assumption)
  · omega
theorem sg_ok.wd {σ : Nat → Nat} (o : sg_ok σ) : sg_wd σ ≤ 3 := by
  have := o.sy (σ 1)
  unfold sg_wd
  omega
theorem sg_ok.hs {σ : Nat → Nat} (o : sg_ok σ) : sg_hs σ ≤ 3 := by
  unfold sg_hs
  omega
theorem sg_br_le {k g n : Nat} (hg : g ≤ 9) (hn : n < 6) : 14 ≤ sg_br k g n ∧ sg_br k g n ≤ 95 := by
  unfold sg_br
  repeat' split
  all_goals omega
theorem sg_ok.bears {σ : Nat → Nat} (o : sg_ok σ) {h : Nat} (hh : h < 6) : 14 ≤ sg_bears σ h ∧ sg_bears σ h ≤ 95 := sg_br_le (o.gap hh) hh
theorem sg_ok.pays {σ : Nat → Nat} (o : sg_ok σ) {h : Nat} (hh : h < 6) : sg_pays σ h ≤ 13 := by
  have := o.gap hh
  unfold sg_pays
  split <;> omega
theorem sg_ln_le {k w h y : Nat} (hw : w ≤ 3) (hy : y ≤ 16) : sg_ln k w h y ≤ 12 := by
  unfold sg_ln
  repeat' split
  all_goals omega
theorem sg_ok.leans {σ : Nat → Nat} (o : sg_ok σ) {h : Nat} : sg_leans σ h ≤ 12 := sg_ln_le o.wd o.2.2.1
/-! ===== what stays: a frame ===== -/
def dk_fr (S : Nat → Nat → Prop) (M M' : dk_Mem) : Prop := M'.2 = M.2 ∧ ∀ q k, ¬ S q k → M'.1 q k = M.1 q k
theorem dk_fr.rf {S : Nat → Nat → Prop} {M : dk_Mem} : dk_fr S M M := ⟨rfl, fun _ _ _ => rfl⟩
theorem dk_fr.tr {S : Nat → Nat → Prop} {M M1 M2 : dk_Mem} (h1 : dk_fr S M M1) (h2 : dk_fr S M1 M2) : dk_fr S M M2 := ⟨h2.1.trans h1.1, fun q k h => (h2.2 q k h).trans (h1.2 q k h)⟩
theorem dk_fr.up {S S' : Nat → Nat → Prop} {M M1 : dk_Mem} (h1 : dk_fr S M M1) (h : ∀ q k, S q k → S' q k) : dk_fr S' M M1 := ⟨h1.1, fun q k hn => h1.2 q k (fun z => hn (h q k z))⟩
theorem dk_fr.put {S : Nat → Nat → Prop} {M M1 : dk_Mem} {p j : Nat} {x : Int32} (h1 : dk_fr S M M1) (h : S p j) : dk_fr S M (dk_put M1 p j x) := ⟨h1.1, fun q k hn => by
  have e : ¬ (q = p ∧ k = j) := fun z => hn (by rw [z.1, z.2]; exact h)
  show (if q = p ∧ k = j then x else M1.1 q k) = _
  rw [if_neg e]
  exact h1.2 q k hn⟩
theorem dk_put_s {M : dk_Mem} {p k : Nat} {x : Int32} : (dk_put M p k x).1 p k = x := if_pos ⟨rfl, rfl⟩
theorem dk_put_k {M : dk_Mem} {p k q j : Nat} {x : Int32} (h : ¬ (q = p ∧ j = k)) : (dk_put M p k x).1 q j = M.1 q j := if_neg h
/-! ===== the reference's row m (place 105) holds the street σ, but for SCORE and z ===== -/
def rr (σ : Nat → Nat) (M : dk_Mem) : Prop := ∀ k, k < 89 → k ≠ 2 → k ≠ 3 → M.1 105 k = nI (σ k)
theorem rr.put {σ : Nat → Nat} {M : dk_Mem} {k v : Nat} (h : rr σ M) : rr (sg_up σ k v) (dk_put M 105 k (nI v)) := fun j h1 h2 h3 => by
  by_cases e : j = k
  · subst e
    rw [dk_put_s, sg_up_s]
  · rw [dk_put_k (fun z => e z.2), sg_up_n e]
    exact h j h1 h2 h3
theorem rr.fr {σ : Nat → Nat} {M M' : dk_Mem} {S : Nat → Nat → Prop} (h : rr σ M) (hf : dk_fr S M M') (hS : ∀ k, k < 89 → ¬ S 105 k) : rr σ M' := fun j h1 h2 h3 => (hf.2 105 j (hS j h1)).trans (h j h1 h2 h3)
/-! ===== switches: a number that is none of 0 .. n - 1 ===== -/
theorem dk_ne_lit {x : Int32} {v : Int32} (h : ¬ x = v) : x.toInt ≠ v.toInt := fun e => h (Int32.toInt_inj.mp e)
theorem sub_up {σ : Nat → Nat} {k v j : Nat} : sg_up σ k v j = if j = k then v else σ j := rfl
theorem dk_out2 {x : Int32} (h0 : ¬ x = 0) (h1 : ¬ x = 1) : x.toInt < 0 ∨ 1 < x.toInt := by
  have g0 := dk_ne_lit h0
  have g1 := dk_ne_lit h1
  rw [show ((0 : Int32)).toInt = 0 from by decide] at g0
  rw [show ((1 : Int32)).toInt = 1 from by decide] at g1
  omega
theorem dk_out3 {x : Int32} (h0 : ¬ x = 0) (h1 : ¬ x = 1) (h2 : ¬ x = 2) : x.toInt < 0 ∨ 2 < x.toInt := by
  have g0 := dk_ne_lit h0
  have g1 := dk_ne_lit h1
  have g2 := dk_ne_lit h2
  rw [show ((0 : Int32)).toInt = 0 from by decide] at g0
  rw [show ((1 : Int32)).toInt = 1 from by decide] at g1
  rw [show ((2 : Int32)).toInt = 2 from by decide] at g2
  omega
theorem dk_out4 {x : Int32} (h0 : ¬ x = 0) (h1 : ¬ x = 1) (h2 : ¬ x = 2) (h3 : ¬ x = 3) : x.toInt < 0 ∨ 3 < x.toInt := by
  have g0 := dk_ne_lit h0
  have g1 := dk_ne_lit h1
  have g2 := dk_ne_lit h2
  have g3 := dk_ne_lit h3
  rw [show ((0 : Int32)).toInt = 0 from by decide] at g0
  rw [show ((1 : Int32)).toInt = 1 from by decide] at g1
  rw [show ((2 : Int32)).toInt = 2 from by decide] at g2
  rw [show ((3 : Int32)).toInt = 3 from by decide] at g3
  omega
theorem dk_out5 {x : Int32} (h0 : ¬ x = 0) (h1 : ¬ x = 1) (h2 : ¬ x = 2) (h3 : ¬ x = 3) (h4 : ¬ x = 4) : x.toInt < 0 ∨ 4 < x.toInt := by
  have g0 := dk_ne_lit h0
  have g1 := dk_ne_lit h1
  have g2 := dk_ne_lit h2
  have g3 := dk_ne_lit h3
  have g4 := dk_ne_lit h4
  rw [show ((0 : Int32)).toInt = 0 from by decide] at g0
  rw [show ((1 : Int32)).toInt = 1 from by decide] at g1
  rw [show ((2 : Int32)).toInt = 2 from by decide] at g2
  rw [show ((3 : Int32)).toInt = 3 from by decide] at g3
  rw [show ((4 : Int32)).toInt = 4 from by decide] at g4
  omega
theorem dk_out6 {x : Int32} (h0 : ¬ x = 0) (h1 : ¬ x = 1) (h2 : ¬ x = 2) (h3 : ¬ x = 3) (h4 : ¬ x = 4) (h5 : ¬ x = 5) : x.toInt < 0 ∨ 5 < x.toInt := by
  have g0 := dk_ne_lit h0
  have g1 := dk_ne_lit h1
  have g2 := dk_ne_lit h2
  have g3 := dk_ne_lit h3
  have g4 := dk_ne_lit h4
  have g5 := dk_ne_lit h5
  rw [show ((0 : Int32)).toInt = 0 from by decide] at g0
  rw [show ((1 : Int32)).toInt = 1 from by decide] at g1
  rw [show ((2 : Int32)).toInt = 2 from by decide] at g2
  rw [show ((3 : Int32)).toInt = 3 from by decide] at g3
  rw [show ((4 : Int32)).toInt = 4 from by decide] at g4
  rw [show ((5 : Int32)).toInt = 5 from by decide] at g5
  omega
theorem dk_out7 {x : Int32} (h0 : ¬ x = 0) (h1 : ¬ x = 1) (h2 : ¬ x = 2) (h3 : ¬ x = 3) (h4 : ¬ x = 4) (h5 : ¬ x = 5) (h6 : ¬ x = 6) : x.toInt < 0 ∨ 6 < x.toInt := by
  have g0 := dk_ne_lit h0
  have g1 := dk_ne_lit h1
  have g2 := dk_ne_lit h2
  have g3 := dk_ne_lit h3
  have g4 := dk_ne_lit h4
  have g5 := dk_ne_lit h5
  have g6 := dk_ne_lit h6
  rw [show ((0 : Int32)).toInt = 0 from by decide] at g0
  rw [show ((1 : Int32)).toInt = 1 from by decide] at g1
  rw [show ((2 : Int32)).toInt = 2 from by decide] at g2
  rw [show ((3 : Int32)).toInt = 3 from by decide] at g3
  rw [show ((4 : Int32)).toInt = 4 from by decide] at g4
  rw [show ((5 : Int32)).toInt = 5 from by decide] at g5
  rw [show ((6 : Int32)).toInt = 6 from by decide] at g6
  omega
theorem dk_out10 {x : Int32} (h0 : ¬ x = 0) (h1 : ¬ x = 1) (h2 : ¬ x = 2) (h3 : ¬ x = 3) (h4 : ¬ x = 4) (h5 : ¬ x = 5) (h6 : ¬ x = 6) (h7 : ¬ x = 7) (h8 : ¬ x = 8) (h9 : ¬ x = 9) : x.toInt < 0 ∨ 9 < x.toInt := by
  have g0 := dk_ne_lit h0
  have g1 := dk_ne_lit h1
  have g2 := dk_ne_lit h2
  have g3 := dk_ne_lit h3
  have g4 := dk_ne_lit h4
  have g5 := dk_ne_lit h5
  have g6 := dk_ne_lit h6
  have g7 := dk_ne_lit h7
  have g8 := dk_ne_lit h8
  have g9 := dk_ne_lit h9
  rw [show ((0 : Int32)).toInt = 0 from by decide] at g0
  rw [show ((1 : Int32)).toInt = 1 from by decide] at g1
  rw [show ((2 : Int32)).toInt = 2 from by decide] at g2
  rw [show ((3 : Int32)).toInt = 3 from by decide] at g3
  rw [show ((4 : Int32)).toInt = 4 from by decide] at g4
  rw [show ((5 : Int32)).toInt = 5 from by decide] at g5
  rw [show ((6 : Int32)).toInt = 6 from by decide] at g6
  rw [show ((7 : Int32)).toInt = 7 from by decide] at g7
  rw [show ((8 : Int32)).toInt = 8 from by decide] at g8
  rw [show ((9 : Int32)).toInt = 9 from by decide] at g9
  omega
theorem dk_outL1_4 {x : Int32} (h0 : ¬ x = 1) (h1 : ¬ x = 2) (h2 : ¬ x = 3) (h3 : ¬ x = 4) : x.toInt < 1 ∨ 4 < x.toInt := by
  have g0 := dk_ne_lit h0
  have g1 := dk_ne_lit h1
  have g2 := dk_ne_lit h2
  have g3 := dk_ne_lit h3
  rw [show ((1 : Int32)).toInt = 1 from by decide] at g0
  rw [show ((2 : Int32)).toInt = 2 from by decide] at g1
  rw [show ((3 : Int32)).toInt = 3 from by decide] at g2
  rw [show ((4 : Int32)).toInt = 4 from by decide] at g3
  omega
theorem dk_outL1_5 {x : Int32} (h0 : ¬ x = 1) (h1 : ¬ x = 2) (h2 : ¬ x = 3) (h3 : ¬ x = 4) (h4 : ¬ x = 5) : x.toInt < 1 ∨ 5 < x.toInt := by
  have g0 := dk_ne_lit h0
  have g1 := dk_ne_lit h1
  have g2 := dk_ne_lit h2
  have g3 := dk_ne_lit h3
  have g4 := dk_ne_lit h4
  rw [show ((1 : Int32)).toInt = 1 from by decide] at g0
  rw [show ((2 : Int32)).toInt = 2 from by decide] at g1
  rw [show ((3 : Int32)).toInt = 3 from by decide] at g2
  rw [show ((4 : Int32)).toInt = 4 from by decide] at g3
  rw [show ((5 : Int32)).toInt = 5 from by decide] at g4
  omega
theorem dk_outL5_5 {x : Int32} (h0 : ¬ x = 5) (h1 : ¬ x = 6) (h2 : ¬ x = 7) (h3 : ¬ x = 8) (h4 : ¬ x = 9) : x.toInt < 5 ∨ 9 < x.toInt := by
  have g0 := dk_ne_lit h0
  have g1 := dk_ne_lit h1
  have g2 := dk_ne_lit h2
  have g3 := dk_ne_lit h3
  have g4 := dk_ne_lit h4
  rw [show ((5 : Int32)).toInt = 5 from by decide] at g0
  rw [show ((6 : Int32)).toInt = 6 from by decide] at g1
  rw [show ((7 : Int32)).toInt = 7 from by decide] at g2
  rw [show ((8 : Int32)).toInt = 8 from by decide] at g3
  rw [show ((9 : Int32)).toInt = 9 from by decide] at g4
  omega
