/-! ===== print: what it tells is told by the row of numbers ===== -/
section PR
variable {v1 v2 v3 w1 w2 w3 : FV} {G F : Nat → FV}
theorem pr162 (hc : ∀ k, k ≠ 13 → k ≠ 14 → f_X3_count v1 v2 G v3 k = f_X3_count w1 w2 F w3 k) (hq : ∀ p k, f_X3_requestAt v1 v2 G v3 p k = f_X3_requestAt w1 w2 F w3 p k) : ∀ (n : Nat) (y1 : Int64) (y3 : Int32), f_L_print_L162 v1 v2 G v3 n y1 y3 = f_L_print_L162 w1 w2 F w3 n y1 y3 := by
  intro n
  induction n with
  | zero => intro y1 y3; rfl
  | succ n ih =>
    intro y1 y3
    unfold f_L_print_L162
    rw [hc 10 (by decide) (by decide)]
    simp only [hq, ih]
    rfl
theorem pr107 (hc : ∀ k, k ≠ 13 → k ≠ 14 → f_X3_count v1 v2 G v3 k = f_X3_count w1 w2 F w3 k) (hd : ∀ p k, f_X3_droughtOf v1 v2 G v3 p k = f_X3_droughtOf w1 w2 F w3 p k) (hq : ∀ p k, f_X3_requestAt v1 v2 G v3 p k = f_X3_requestAt w1 w2 F w3 p k) : ∀ (n : Nat) (y1 : Int64) (y3 : Int32), f_L_print_L107 v1 v2 G v3 n y1 y3 = f_L_print_L107 w1 w2 F w3 n y1 y3 := by
  intro n
  have e : ∀ y1, f_L_print_J160 v1 v2 G v3 y1 = f_L_print_J160 w1 w2 F w3 y1 := fun y1 => pr162 hc hq FUEL y1 1
  induction n with
  | zero => intro y1 y3; rfl
  | succ n ih =>
    intro y1 y3
    unfold f_L_print_L107
    rw [hc 1 (by decide) (by decide)]
    simp only [hd, ih, e]
theorem pr71 (hw : ∀ p k, f_X3_wellOf v1 v2 G v3 p k = f_X3_wellOf w1 w2 F w3 p k) (k1 k2 : Int64 → Int32 → Option Int64) (hk : ∀ y1 y3, k1 y1 y3 = k2 y1 y3) : ∀ (n : Nat) (y1 : Int64) (y3 y4 : Int32), f_L_print_L71 v1 v2 G v3 k1 n y1 y3 y4 = f_L_print_L71 w1 w2 F w3 k2 n y1 y3 y4 := by
  intro n
  induction n with
  | zero => intro y1 y3 y4; rfl
  | succ n ih =>
    intro y1 y3 y4
    unfold f_L_print_L71
    simp only [hw, ih, hk]
theorem pr59 (hc : ∀ k, k ≠ 13 → k ≠ 14 → f_X3_count v1 v2 G v3 k = f_X3_count w1 w2 F w3 k) (hw : ∀ p k, f_X3_wellOf v1 v2 G v3 p k = f_X3_wellOf w1 w2 F w3 p k) (hd : ∀ p k, f_X3_droughtOf v1 v2 G v3 p k = f_X3_droughtOf w1 w2 F w3 p k) (hq : ∀ p k, f_X3_requestAt v1 v2 G v3 p k = f_X3_requestAt w1 w2 F w3 p k) : ∀ (n : Nat) (y1 : Int64) (y3 : Int32), f_L_print_L59 v1 v2 G v3 n y1 y3 = f_L_print_L59 w1 w2 F w3 n y1 y3 := by
  intro n
  have e : ∀ y1, f_L_print_J105 v1 v2 G v3 y1 = f_L_print_J105 w1 w2 F w3 y1 := fun y1 => pr107 hc hd hq FUEL y1 0
  induction n with
  | zero => intro y1 y3; rfl
  | succ n ih =>
    intro y1 y3
    unfold f_L_print_L59
    rw [hc 0 (by decide) (by decide)]
    simp only [pr71 hw (f_L_print_L59 v1 v2 G v3 n) (f_L_print_L59 w1 w2 F w3 n) ih, e]
theorem pr6 (hc : ∀ k, k ≠ 13 → k ≠ 14 → f_X3_count v1 v2 G v3 k = f_X3_count w1 w2 F w3 k) (hw : ∀ p k, f_X3_wellOf v1 v2 G v3 p k = f_X3_wellOf w1 w2 F w3 p k) (hd : ∀ p k, f_X3_droughtOf v1 v2 G v3 p k = f_X3_droughtOf w1 w2 F w3 p k) (hq : ∀ p k, f_X3_requestAt v1 v2 G v3 p k = f_X3_requestAt w1 w2 F w3 p k) : ∀ (t i m : Nat) (y1 : Int64), i + t = 13 → f_L_print_L6 v1 v2 G v3 (m + t + 1) y1 (nI i) = f_L_print_L6 w1 w2 F w3 (m + t + 1) y1 (nI i) := by
  have e : ∀ y1, f_L_print_J31 v1 v2 G v3 y1 = f_L_print_J31 w1 w2 F w3 y1 := by
    intro y1
    unfold f_L_print_J31
    rw [hc 20 (by decide) (by decide), hc 21 (by decide) (by decide)]
    simp only [pr59 hc hw hd hq]
  intro t
  induction t with
  | zero =>
    intro i m y1 h
    have hi : i = 13 := by omega
    subst hi
    unfold f_L_print_L6
    rw [if_pos (show (13 : Int32) ≤ nI 13 by decide), if_pos (show (13 : Int32) ≤ nI 13 by decide), e]
  | succ t ih =>
    intro i m y1 h
    have e13 : nI i ≠ 13 := fun z => by have := (nI_eq (a := i) (b := 13) (by omega) (by omega)).mp z; omega
    have e14 : nI i ≠ 14 := fun z => by have := (nI_eq (a := i) (b := 14) (by omega) (by omega)).mp z; omega
    show (if 13 ≤ nI i then _ else ((f_X3_count v1 v2 G v3 (nI i)).bind fun x18 => (f_L_print_L6 v1 v2 G v3 (m + t + 1) ((31 * y1) + (Int32.toInt64 x18)) (nI i + 1)))) = (if 13 ≤ nI i then _ else ((f_X3_count w1 w2 F w3 (nI i)).bind fun x18 => (f_L_print_L6 w1 w2 F w3 (m + t + 1) ((31 * y1) + (Int32.toInt64 x18)) (nI i + 1))))
    rw [if_neg (show ¬ (13 : Int32) ≤ nI i from nI_ge (b := 13) (by omega) (by omega)), if_neg (show ¬ (13 : Int32) ≤ nI i from nI_ge (b := 13) (by omega) (by omega)), hc _ e13 e14, nI_1]
    simp only [ih (i + 1) m _ (by omega)]
end PR
theorem print_eq {N : NN} {hs ks : List NN} {tx ty : List Nat} {v1 v2 v3 w1 w2 w3 : FV} {G F : Nat → FV} (h : AS N hs tx v1 G v3) (g : AS N ks ty w1 F w3) : f_L_print v1 v2 G v3 = f_L_print w1 w2 F w3 := by
  obtain ⟨m, hm⟩ := FUEL_ge (k := 14) (by omega)
  unfold f_L_print
  rw [hm]
  have two : ∀ {a b c : Option Int32}, (∃ r, a = some r ∧ b = some r) → (∃ r, c = some r ∧ b = some r) → a = c := fun ⟨r, h1, h2⟩ ⟨s, h3, h4⟩ => by rw [h1, h3, ← h4, h2]
  refine pr6 (fun k h13 h14 => ?_) (fun p k => two (rd_well h p k) (rd_well g p k)) (fun p k => two (rd_drought h p k) (rd_drought g p k)) (fun p k => two (rd_request h p k) (rd_request g p k)) 13 0 m 7 (by omega)
  have hR := h.1.1
  have gR := g.1.1
  have s1 : ∀ r, r < 12 → f_X0_sumOf v1 (nI r) = f_X0_sumOf w1 (nI r) := fun r hr => (sum0_eq hR h.1.b.1 hr).trans (sum0_eq gR h.1.b.1 hr).symm
  have s2 : f_X0_timeOfDay v1 = f_X0_timeOfDay w1 := (tod_eq h.1.ok).trans (tod_eq g.1.ok).symm
  obtain ⟨⟨a1, a2, a3, a4, a5, a6, a7, a8, a9, a10⟩, -⟩ := hR
  obtain ⟨⟨b1, b2, b3, b4, b5, b6, b7, b8, b9, b10⟩, -⟩ := gR
  unfold f_X3_count
  rw [a1.trans b1.symm, a3.trans b3.symm, a7.trans b7.symm, show (4 : Int32) = nI 4 from rfl, show (6 : Int32) = nI 6 from rfl, show (7 : Int32) = nI 7 from rfl, show (8 : Int32) = nI 8 from rfl, show (9 : Int32) = nI 9 from rfl, show (10 : Int32) = nI 10 from rfl, show (11 : Int32) = nI 11 from rfl, show (5 : Int32) = nI 5 from rfl,
    s1 4 (by omega), s1 6 (by omega), s1 7 (by omega), s1 8 (by omega), s1 9 (by omega), s1 10 (by omega), s1 11 (by omega), s1 5 (by omega), a5.trans b5.symm, a10.trans b10.symm, s2, a8.trans b8.symm, a9.trans b9.symm, if_neg h13, if_neg h14, if_neg h13, if_neg h14]
/-! print comes to an end -/
section PT
variable {N : NN} {hs : List NN} {tx : List Nat} {v1 v2 v3 : FV} {G : Nat → FV}
theorem pt162 (h : AS N hs tx v1 G v3) : ∀ (t i m : Nat) (y1 : Int64), i + t = nQ N → Go (f_L_print_L162 v1 v2 G v3 (m + t + 1) y1 (nI (i + 1))) (fun _ => True) := by
  have hc := (rd_cnt (v2 := v2) h).2.2.2.2.2.2.2.2.2.2.1
  have hb := h.1.b
  intro t
  induction t with
  | zero =>
    intro i m y1 hi
    unfold f_L_print_L162
    refine Go.rd hc (Go.t (nI_lt (by omega) (by omega)) (Go.ret trivial))
  | succ t ih =>
    intro i m y1 hi
    unfold f_L_print_L162
    refine Go.rd hc (Go.f (fun e => by rw [i_lt, nI_toInt (by omega), nI_toInt (by omega)] at e; omega) ?_)
    obtain ⟨r0, e0, -⟩ := rd_request (v2 := v2) h (nI (i + 1)) 0
    obtain ⟨r1, e1, -⟩ := rd_request (v2 := v2) h (nI (i + 1)) 1
    obtain ⟨r2, e2, -⟩ := rd_request (v2 := v2) h (nI (i + 1)) 2
    refine Go.rd e0 (Go.rd e1 (Go.rd e2 ?_))
    rw [nI_1]
    exact ih (i + 1) m _ (by omega)
theorem pt107 (h : AS N hs tx v1 G v3) : ∀ (t i m : Nat) (y1 : Int64), i + t = nD N → Go (f_L_print_L107 v1 v2 G v3 (m + t + 1) y1 (nI i)) (fun _ => True) := by
  have hc := (rd_cnt (v2 := v2) h).2.1
  have hb := h.1.b
  intro t
  induction t with
  | zero =>
    intro i m y1 hi
    unfold f_L_print_L107
    refine Go.rd hc (Go.t (nI_le (by omega) (by omega)) ?_)
    obtain ⟨m2, hm⟩ := FUEL_ge (k := nQ N + 1) (by omega)
    unfold f_L_print_J160
    rw [hm]
    exact pt162 h (nQ N) 0 m2 y1 (by omega)
  | succ t ih =>
    intro i m y1 hi
    unfold f_L_print_L107
    refine Go.rd hc (Go.f (nI_ge (by omega) (by omega)) ?_)
    obtain ⟨r0, e0, -⟩ := rd_drought (v2 := v2) h (nI i) 0
    obtain ⟨r1, e1, -⟩ := rd_drought (v2 := v2) h (nI i) 1
    obtain ⟨r2, e2, -⟩ := rd_drought (v2 := v2) h (nI i) 2
    refine Go.rd e0 (Go.rd e1 (Go.rd e2 ?_))
    rw [nI_1]
    exact ih (i + 1) m _ (by omega)
theorem pt71 (h : AS N hs tx v1 G v3) (k : Int64 → Int32 → Option Int64) (y3 : Int32) (hk : ∀ y1, Go (k y1 (y3 + 1)) (fun _ => True)) : ∀ (t i m : Nat) (y1 : Int64), i + t = 14 → Go (f_L_print_L71 v1 v2 G v3 k (m + t + 1) y1 y3 (nI i)) (fun _ => True) := by
  intro t
  induction t with
  | zero =>
    intro i m y1 hi
    have hi : i = 14 := by omega
    subst hi
    unfold f_L_print_L71
    exact Go.t (show (14 : Int32) ≤ nI 14 by decide) (hk y1)
  | succ t ih =>
    intro i m y1 hi
    unfold f_L_print_L71
    refine Go.f (show ¬ (14 : Int32) ≤ nI i from nI_ge (b := 14) (by omega) (by omega)) ?_
    obtain ⟨r0, e0, -⟩ := rd_well (v2 := v2) h y3 (nI i)
    refine Go.rd e0 ?_
    rw [nI_1]
    exact ih (i + 1) m _ (by omega)
theorem pt59 (h : AS N hs tx v1 G v3) : ∀ (t i m : Nat) (y1 : Int64), i + t = nW N → Go (f_L_print_L59 v1 v2 G v3 (m + t + 1) y1 (nI i)) (fun _ => True) := by
  have hc := (rd_cnt (v2 := v2) h).1
  have hb := h.1.b
  intro t
  induction t with
  | zero =>
    intro i m y1 hi
    unfold f_L_print_L59
    refine Go.rd hc (Go.t (nI_le (by omega) (by omega)) ?_)
    obtain ⟨m2, hm⟩ := FUEL_ge (k := nD N + 1) (by omega)
    unfold f_L_print_J105
    rw [hm]
    exact pt107 h (nD N) 0 m2 y1 (by omega)
  | succ t ih =>
    intro i m y1 hi
    unfold f_L_print_L59
    refine Go.rd hc (Go.f (nI_ge (by omega) (by omega)) ?_)
    obtain ⟨m2, hm⟩ := FUEL_ge (k := 15) (by omega)
    rw [hm]
    exact pt71 h _ _ (fun y => by rw [nI_1]; exact ih (i + 1) m y (by omega)) 14 0 m2 y1 (by omega)
theorem pt6 (h : AS N hs tx v1 G v3) : ∀ (t i m : Nat) (y1 : Int64), i + t = 13 → Go (f_L_print_L6 v1 v2 G v3 (m + t + 1) y1 (nI i)) (fun _ => True) := by
  have hb := h.1.b
  intro t
  induction t with
  | zero =>
    intro i m y1 hi
    have hi : i = 13 := by omega
    subst hi
    unfold f_L_print_L6
    refine Go.t (show (13 : Int32) ≤ nI 13 by decide) ?_
    obtain ⟨r0, e0⟩ := rd_tot (v2 := v2) h 20
    obtain ⟨r1, e1⟩ := rd_tot (v2 := v2) h 21
    refine Go.rd e0 (Go.rd e1 ?_)
    obtain ⟨m2, hm⟩ := FUEL_ge (k := nW N + 1) (by omega)
    rw [hm]
    exact pt59 h (nW N) 0 m2 _ (by omega)
  | succ t ih =>
    intro i m y1 hi
    unfold f_L_print_L6
    refine Go.f (show ¬ (13 : Int32) ≤ nI i from nI_ge (b := 13) (by omega) (by omega)) ?_
    obtain ⟨r0, e0⟩ := rd_tot (v2 := v2) h (nI i)
    refine Go.rd e0 ?_
    rw [nI_1]
    exact ih (i + 1) m _ (by omega)
end PT
/-- what is printed of a row of numbers -/
def PrN (N : NN) (z : Int64) : Prop := ∀ (hs : List NN) (tx : List Nat) (v1 v2 : FV) (G : Nat → FV) (v3 : FV), AS N hs tx v1 G v3 → f_L_print v1 v2 G v3 = some z
theorem print_go {N : NN} {hs : List NN} {tx : List Nat} {v1 v2 v3 : FV} {G : Nat → FV} (h : AS N hs tx v1 G v3) : Go (f_L_print v1 v2 G v3) (PrN N) := by
  obtain ⟨m, hm⟩ := FUEL_ge (k := 14) (by omega)
  have ht := pt6 (v2 := v2) h 13 0 m 7 (by omega)
  obtain ⟨z, hz, -⟩ := ht
  have e : f_L_print v1 v2 G v3 = some z := by
    unfold f_L_print
    rw [hm]
    exact hz
  exact ⟨z, e, fun ks ty w1 w2 F w3 g => (print_eq g h).trans e⟩
