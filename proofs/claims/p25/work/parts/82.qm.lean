/-! ===== fault, play ===== -/
theorem TXT.same {tx : List Nat} {v w : FV} (h : TXT tx v) (e1 : w 1 = v 1) (e0 : w 0 0 = v 0 0) : TXT tx w := ⟨h.1, by rw [e0]; exact h.2.1, fun i hi => by rw [e1]; exact h.2.2 i hi⟩
section FP
variable {N : NN} {hs : List NN} {tx : List Nat} {v1 v2 v3 : FV} {G : Nat → FV}
theorem fault_of (h : AS N hs tx v1 G v3) {p : Int32} (hp : p = 0 ∨ p = 1) {P : Int32 → Prop} (hrun : ∀ U, K2 U N → ∃ U' w, f_X2_runOn U v3 = some (U', w) ∧ w 1 = v3 1 ∧ w 0 0 = v3 0 0 ∧ P (if w 0 4 = 0 then -4 else if p = 0 then w 0 3 else w 0 4)) : Go (f_X3_fault v1 v2 G v3 p) (fun r => P r.1 ∧ AS N hs tx r.2.1 r.2.2.2.1 r.2.2.2.2) := by
  obtain ⟨X, e1, e2⟩ := copyFrom_eq v2 v1
  obtain ⟨U', w, f1, f2, f3, f4⟩ := hrun X (h.1.congrV e2)
  have hA : AS N hs tx v1 G w := ⟨h.1, h.2.1, h.2.2.same f2 f3⟩
  have hcore : ((f_X0_copyFrom v2 v1).bind fun v22 => ((f_X2_runOn v22 v3).bind fun t3 => (if (t3.2 0 4) = 0 then some ((-4), (v1, t3.1, G, t3.2)) else (if p = 0 then some (t3.2 0 3, (v1, t3.1, G, t3.2)) else some (t3.2 0 4, (v1, t3.1, G, t3.2)))))) = some ((if w 0 4 = 0 then (-4 : Int32) else if p = 0 then w 0 3 else w 0 4), (v1, U', G, w)) := by
    rw [e1, ob_s, f1, ob_s]
    by_cases c : w 0 4 = 0
    · rw [if_pos c, if_pos c]
    · rw [if_neg c, if_neg c]
      by_cases c2 : p = 0
      · rw [if_pos c2, if_pos c2]
      · rw [if_neg c2, if_neg c2]
  refine Go.of (a := (_, (v1, U', G, w))) ?_ ⟨f4, hA⟩
  unfold f_X3_fault
  rcases hp with c | c
  · rw [if_pos c]; exact hcore
  · rw [if_neg (by rw [c]; decide), if_pos c]; exact hcore
theorem play_ok (h : AS N hs tx v1 G v3) {M : NN} {r : Int32} (hr : ¬ r < 0) (hrun : ∀ U, K2 U N → ∃ U' w, f_X2_runOn U v3 = some (U', w) ∧ w 1 = v3 1 ∧ w 0 0 = v3 0 0 ∧ w 0 4 = 0 ∧ w 0 2 = r ∧ K2 U' M) : Go (f_X3_play v1 v2 G v3) (fun t => t.1 = r ∧ AS M ((N :: hs).take 4) tx t.2.1 t.2.2.2.1 t.2.2.2.2) := by
  obtain ⟨hK, ⟨o, hH⟩, hT⟩ := h
  obtain ⟨G', n1, hH1, hX⟩ := note_go hH hK
  obtain ⟨X, e1, e2⟩ := copyFrom_eq v2 v1
  obtain ⟨U', w, f1, f2, f3, f4, f5, f6⟩ := hrun X (hK.congrV e2)
  obtain ⟨Y, g1, g2⟩ := copyFrom_eq v1 U'
  obtain ⟨G1, o', k1, hH2⟩ := keep_go (v1 := Y) (v2 := U') (v3 := w) hH1 hX hr
  refine Go.of (a := (r, (Y, U', G1, w))) ?_ ⟨rfl, f6.congrV g2, ⟨o', hH2⟩, hT.same f2 f3⟩
  unfold f_X3_play
  rw [n1, ob_s, e1, ob_s, f1, ob_s, if_pos f4, g1, ob_s]
  dsimp only
  rw [f5, k1, b2_mk]
theorem play_no (h : AS N hs tx v1 G v3) (hrun : ∀ U, K2 U N → ∃ U' w, f_X2_runOn U v3 = some (U', w) ∧ w 1 = v3 1 ∧ w 0 0 = v3 0 0 ∧ ¬ w 0 4 = 0) : Go (f_X3_play v1 v2 G v3) (fun t => t.1 = -2 ∧ AS N hs tx t.2.1 t.2.2.2.1 t.2.2.2.2) := by
  obtain ⟨hK, ⟨o, hH⟩, hT⟩ := h
  obtain ⟨G', n1, hH1, hX⟩ := note_go hH hK
  obtain ⟨X, e1, e2⟩ := copyFrom_eq v2 v1
  obtain ⟨U', w, f1, f2, f3, f4⟩ := hrun X (hK.congrV e2)
  refine Go.of (a := (-2, (v1, U', G', w))) ?_ ⟨rfl, hK, ⟨o, hH1⟩, hT.same f2 f3⟩
  unfold f_X3_play
  rw [n1, ob_s, e1, ob_s, f1, ob_s, if_neg f4]
/-! the changes, as calls -/
theorem tick_go (h : AS N hs tx v1 G v3) {P : Nat} (h0 : 1 ≤ P) (h1 : P ≤ 200) (hT : (N 0).toInt + P ≤ 50000) : Go (f_X3_tick v1 v2 G v3 (nI P)) (fun t => t.1 = nI (nQ N - nQ (itN P N)) ∧ TF P N (itN P N) ∧ FR (nW (itN P N)) (nQ (itN P N)) (itN P N) ∧ AS (itN P N) ((N :: hs).take 4) tx t.2.1 t.2.2.2.1 t.2.2.2.2) := by
  obtain ⟨V', e, hK, hTF, hF⟩ := pass_K2 h0 h1 h.1 hT
  exact (chg_ok (opC := fun V => f_X0_passTicks V (nI P)) h (nI_pos (by have := h.1.b; omega)) ⟨V', e, hK⟩).mono (fun a q => ⟨q.1, hTF, hF, q.2⟩)
theorem tick_bad (h : AS N hs tx v1 G v3) {p : Int32} (hp : p.toInt < 1 ∨ 200 < p.toInt) : Go (f_X3_tick v1 v2 G v3 p) (fun t => t.1 = -1 ∧ AS N hs tx t.2.1 t.2.2.2.1 t.2.2.2.2) :=
  chg_err (opC := fun V => f_X0_passTicks V p) h (by decide) ⟨v1, pass_bad h.1 hp, h.1⟩
theorem well_badc (h : AS N hs tx v1 G v3) {p1 p2 p3 p4 : Int32} (hb : (nW N = 0 ∧ p1 ≠ -1) ∨ (0 < nW N ∧ (p1 < 0 ∨ nI (nW N) ≤ p1)) ∨ ((nW N = 0 → p1 = -1) ∧ (0 < nW N → ∃ a, a < nW N ∧ p1 = nI a) ∧ (p2.toInt < 1 ∨ 1000 < p2.toInt ∨ p3.toInt < 0 ∨ 100 < p3.toInt ∨ p4.toInt < 0 ∨ 1000 < p4.toInt))) : Go (f_X3_well v1 v2 G v3 p1 p2 p3 p4) (fun t => t.1 = -1 ∧ AS N hs tx t.2.1 t.2.2.2.1 t.2.2.2.2) :=
  chg_err (opC := fun V => f_X0_addWell V p1 p2 p3 p4) h (by decide) ⟨v1, well_no h.1 hb, h.1⟩
theorem well_fullc (h : AS N hs tx v1 G v3) (hn : nW N = 12) {a : Nat} (ha : a < 12) {p2 p3 p4 : Int32} (h2 : 1 ≤ p2.toInt ∧ p2.toInt ≤ 1000) (h3 : 0 ≤ p3.toInt ∧ p3.toInt ≤ 100) (h4 : 0 ≤ p4.toInt ∧ p4.toInt ≤ 1000) : Go (f_X3_well v1 v2 G v3 (nI a) p2 p3 p4) (fun t => t.1 = -3 ∧ AS N hs tx t.2.1 t.2.2.2.1 t.2.2.2.2) :=
  chg_err (opC := fun V => f_X0_addWell V (nI a) p2 p3 p4) h (by decide) ⟨v1, well_full h.1 hn ha h2 h3 h4, h.1⟩
theorem drought_badc (h : AS N hs tx v1 G v3) {p p2 p3 : Int32} (hp : p < 0 ∨ nI (nW N) ≤ p) : Go (f_X3_drought v1 v2 G v3 p p2 p3) (fun t => t.1 = -1 ∧ AS N hs tx t.2.1 t.2.2.2.1 t.2.2.2.2) :=
  chg_err (opC := fun V => f_X0_addDrought V p p2 p3) h (by decide) ⟨v1, drought_bad h.1 hp, h.1⟩
theorem drought_badc2 (h : AS N hs tx v1 G v3) {w : Nat} (hw : w < nW N) {p2 p3 : Int32} (hb : p2.toInt ≤ (N 0).toInt ∨ p3.toInt < p2.toInt ∨ 60000 < p3.toInt) : Go (f_X3_drought v1 v2 G v3 (nI w) p2 p3) (fun t => t.1 = -1 ∧ AS N hs tx t.2.1 t.2.2.2.1 t.2.2.2.2) :=
  chg_err (opC := fun V => f_X0_addDrought V (nI w) p2 p3) h (by decide) ⟨v1, drought_bad2 h.1 hw hb, h.1⟩
theorem request_badc (h : AS N hs tx v1 G v3) {p b : Int32} (hp : p < 0 ∨ nI (nW N) ≤ p) : Go (f_X3_request v1 v2 G v3 p b) (fun t => t.1 = -1 ∧ AS N hs tx t.2.1 t.2.2.2.1 t.2.2.2.2) :=
  chg_err (opC := fun V => f_X0_takeRequest V p b) h (by decide) ⟨v1, request_bad h.1 hp, h.1⟩
theorem cancel_badc (h : AS N hs tx v1 G v3) {p : Int32} (hp : p < 1 ∨ nI (nQ N) < p) : Go (f_X3_cancel v1 v2 G v3 p) (fun t => t.1 = -1 ∧ AS N hs tx t.2.1 t.2.2.2.1 t.2.2.2.2) :=
  chg_err (opC := fun V => f_X0_dropRequest V p) h (by decide) ⟨v1, cancel_bad h.1 hp, h.1⟩
theorem set_badc (h : AS N hs tx v1 G v3) {p1 p2 : Int32} (hb : (p1 = 0 ∧ (p2.toInt < 4 ∨ 100 < p2.toInt)) ∨ (p1 = 1 ∧ p2 ≠ 0 ∧ p2 ≠ 1) ∨ (p1 ≠ 0 ∧ p1 ≠ 1)) : Go (f_X3_set v1 v2 G v3 p1 p2) (fun t => t.1 = -1 ∧ AS N hs tx t.2.1 t.2.2.2.1 t.2.2.2.2) :=
  chg_err (opC := fun V => f_X0_changeSetting V p1 p2) h (by decide) ⟨v1, set_bad hb, h.1⟩
end FP
