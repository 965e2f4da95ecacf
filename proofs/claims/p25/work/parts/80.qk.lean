/-! ===== forecasts ===== -/
theorem int_lg (a b : Int) : a < b ∨ b ≤ a := by omega
theorem TF.well {k : Nat} {N M : NN} (h : TF k N M) : nW M = nW N := h.2.2.2.1
theorem waterL {w P : Nat} {v1 v3 : FV} {G : Nat → FV} (hP : P ≤ 300) : ∀ (t i m : Nat) (v2 : FV) (M : NN), i + t = P → K2 v2 M → w < nW M → (M 0).toInt + t ≤ 50000 → ∃ w2, f_X3_waterIn_L37 (m + t + 1) (nI w) (nI P) (nI i) v1 v2 G v3 = some (itN t M (8 + 12 * w + 4), (v1, w2, G, v3)) := by
  intro t
  induction t with
  | zero =>
    intro i m v2 M hi hK hw hT
    have hi : i = P := by omega
    subst hi
    have hb := hK.b
    refine ⟨v2, ?_⟩
    show (if nI i ≤ nI i then ((rd 12 (v2 10) (nI w)).bind fun x7 => some (x7, (v1, v2, G, v3))) else _) = _
    rw [if_pos (nI_le (Nat.le_refl _) (by omega)), rd_nI (by omega) (by omega), ob_s]
    have := hK.1.2.1 w 4 hw (by omega)
    rw [show (6 + 4 : Nat) = 10 from rfl] at this
    rw [this]
    rfl
  | succ t ih =>
    intro i m v2 M hi hK hw hT
    obtain ⟨V', e, hK1, hT1, -⟩ := tick_K2 hK (by omega)
    obtain ⟨w2, e2⟩ := ih (i + 1) m V' (tkN M) (by omega) hK1 (by rw [hT1.well]; exact hw) (by rw [hT1.1]; omega)
    refine ⟨w2, ?_⟩
    show (if nI P ≤ nI i then _ else (b2 (f_X0_passTick v2) fun x8 v28 => (f_X3_waterIn_L37 (m + t + 1) (nI w) (nI P) (nI i + 1) v1 v28 G v3))) = _
    rw [if_neg (nI_ge (by omega) (by omega)), e, b2_mk, nI_1, e2]
    rfl
section FC
variable {N : NN} {hs : List NN} {tx : List Nat} {v1 v2 v3 : FV} {G : Nat → FV}
theorem water_go (h : AS N hs tx v1 G v3) {w t : Nat} (hw : w < nW N) (ht : t ≤ 300) (hT : (N 0).toInt + t ≤ 50000) : Go (f_X3_waterIn v1 v2 G v3 (nI w) (nI t)) (fun r => r.1 = itN t N (8 + 12 * w + 4) ∧ AS N hs tx r.2.1 r.2.2.2.1 r.2.2.2.2) := by
  obtain ⟨X, e1, e2⟩ := copyFrom_eq v2 v1
  obtain ⟨m, hm⟩ := FUEL_ge (k := t + 1) (by omega)
  obtain ⟨w2, e3⟩ := waterL (w := w) (v1 := v1) (v3 := v3) (G := G) ht t 0 m X N (by omega) (h.1.congrV e2) hw hT
  unfold f_X3_waterIn
  rw [isW_y h.1 hw, ob_s, if_neg n10, if_neg (nI_pos (by omega)), if_pos (show nI t ≤ (300 : Int32) from nI_le (b := 300) ht (by omega)), e1, ob_s, hm]
  exact Go.of e3 ⟨rfl, h⟩
theorem water_bad (h : AS N hs tx v1 G v3) {p k : Int32} (hp : p < 0 ∨ nI (nW N) ≤ p) : Go (f_X3_waterIn v1 v2 G v3 p k) (fun r => r.1 = -1 ∧ AS N hs tx r.2.1 r.2.2.2.1 r.2.2.2.2) := by
  unfold f_X3_waterIn
  rw [isW_n h.1 hp, ob_s, if_pos rfl]
  exact Go.ret ⟨rfl, h⟩
theorem water_301 (h : AS N hs tx v1 G v3) (hw : 0 < nW N) : Go (f_X3_waterIn v1 v2 G v3 0 301) (fun r => r.1 = -1 ∧ AS N hs tx r.2.1 r.2.2.2.1 r.2.2.2.2) := by
  unfold f_X3_waterIn
  rw [show f_X0_isWell v1 0 = some 1 from isW_y (w := 0) h.1 hw, ob_s, if_neg n10, if_neg (by decide), if_neg (by decide)]
  exact Go.ret ⟨rfl, h⟩
end FC
/-- in how many ticks a draw is possible -/
def PS (N : NN) (w : Nat) (b r : Int32) : Prop := (∃ k, k ≤ 300 ∧ r = nI k ∧ b.toInt ≤ abl (itN k N) w 12 w ∧ ∀ j, j < k → abl (itN j N) w 12 w < b.toInt) ∨ (r = -4 ∧ ∀ j, j ≤ 300 → abl (itN j N) w 12 w < b.toInt)
theorem possL {w : Nat} {b : Int32} {v1 v3 : FV} {G : Nat → FV} {N : NN} (hw : w < nW N) (hb : 1 ≤ b.toInt) (hT : (N 0).toInt + 301 ≤ 50000) : ∀ (t i m : Nat) (v2 : FV), i + t = 301 → K2 v2 (itN i N) → TF i N (itN i N) → (∀ j, j < i → abl (itN j N) w 12 w < b.toInt) → ∃ r w2, f_X3_possibleIn_L33 (m + t + 1) (nI w) b (nI i) v1 v2 G v3 = some (r, (v1, w2, G, v3)) ∧ PS N w b r := by
  intro t
  induction t with
  | zero =>
    intro i m v2 hi hK hTF hj
    have hi : i = 301 := by omega
    subst hi
    refine ⟨-4, v2, ?_, Or.inr ⟨rfl, fun j h => hj j (by omega)⟩⟩
    unfold f_X3_possibleIn_L33
    rw [if_pos (by decide)]
  | succ t ih =>
    intro i m v2 hi hK hTF hj
    have hw' : w < nW (itN i N) := by rw [hTF.well]; exact hw
    obtain ⟨r, V', e, hr, -, hK'⟩ := share_K2 hK hw' (b := b) (by omega)
    have cond : ¬ (300 : Int32) < nI i := fun c => by rw [i_lt, nI_toInt (by omega), show (300 : Int32).toInt = 300 from rfl] at c; omega
    show ∃ r w2, (if 300 < nI i then _ else (b2 (f_X0_shareOut v2 (nI w) b) fun x7 v27 => (if x7 = b then some (nI i, (v1, v27, G, v3)) else (b2 (f_X0_passTick v27) fun x9 v29 => (f_X3_possibleIn_L33 (m + t + 1) (nI w) b (nI i + 1) v1 v29 G v3))))) = some (r, (v1, w2, G, v3)) ∧ PS N w b r
    rw [if_neg cond, e, b2_mk]
    by_cases c : r = b
    · rw [if_pos c]
      refine ⟨nI i, V', rfl, Or.inl ⟨i, by omega, rfl, ?_, hj⟩⟩
      rw [c] at hr
      omega
    · rw [if_neg c]
      have hlt : abl (itN i N) w 12 w < b.toInt := by
        rcases int_lg (abl (itN i N) w 12 w) b.toInt with q | q
        · exact q
        · exact absurd (i_eq.mpr (by rw [hr]; omega)) c
      obtain ⟨V2, e2, hK2, hT2, -⟩ := tick_K2 hK' (by rw [hTF.1]; omega)
      rw [e2, b2_mk, nI_1]
      rw [← itN_s] at hK2 hT2
      exact ih (i + 1) m V2 (by omega) hK2 (hTF.tr hT2) (fun j h => by
        by_cases cj : j = i
        · rw [cj]; exact hlt
        · exact hj j (by omega))
section FD
variable {N : NN} {hs : List NN} {tx : List Nat} {v1 v2 v3 : FV} {G : Nat → FV}
theorem poss_go (h : AS N hs tx v1 G v3) {w : Nat} (hw : w < nW N) {b : Int32} (h1 : 1 ≤ b.toInt) (h2 : b.toInt ≤ 999) (hT : (N 0).toInt + 301 ≤ 50000) : Go (f_X3_possibleIn v1 v2 G v3 (nI w) b) (fun r => PS N w b r.1 ∧ AS N hs tx r.2.1 r.2.2.2.1 r.2.2.2.2) := by
  obtain ⟨X, e1, e2⟩ := copyFrom_eq v2 v1
  obtain ⟨m, hm⟩ := FUEL_ge (k := 302) (by omega)
  obtain ⟨r, w2, e3, hr⟩ := possL (v1 := v1) (v3 := v3) (G := G) hw h1 hT 301 0 m X (by omega) (h.1.congrV e2) TF.rf (fun j hj => absurd hj (by omega))
  unfold f_X3_possibleIn
  rw [isW_y h.1 hw, ob_s, if_neg n10, areB_eq, ob_s, bk_y h1 h2, if_neg n10, e1, ob_s, hm]
  exact Go.of e3 ⟨hr, h⟩
theorem poss_bad (h : AS N hs tx v1 G v3) {p k : Int32} (hp : p < 0 ∨ nI (nW N) ≤ p) : Go (f_X3_possibleIn v1 v2 G v3 p k) (fun r => r.1 = -1 ∧ AS N hs tx r.2.1 r.2.2.2.1 r.2.2.2.2) := by
  unfold f_X3_possibleIn
  rw [isW_n h.1 hp, ob_s, if_pos rfl]
  exact Go.ret ⟨rfl, h⟩
/-! the text -/
theorem clear_go (h : AS N hs tx v1 G v3) : Go (f_X3_clearText v1 v2 G v3) (fun r => r.1 = nI tx.length ∧ AS N hs [] r.2.1 r.2.2.2.1 r.2.2.2.2) := by
  unfold f_X3_clearText
  rw [lt1_mk]
  exact Go.ret ⟨h.2.2.2.1, h.1, h.2.1, by simp, show st v3 0 0 0 0 0 = nI 0 from st_eq, fun i hi => absurd hi (by simp)⟩
theorem chr_kX : ∀ k, k < 127 → ((nI k).toUInt32 % 65536).toInt32 = nI k ∧ vp_nar .char (nI k) = nI k := by decide +kernel
theorem type_go (h : AS N hs tx v1 G v3) {c : Nat} (h1 : 32 ≤ c) (h2 : c ≤ 126) (hl : tx.length < 60) : Go (f_X3_type v1 v2 G v3 (nI c)) (fun r => r.1 = nI (tx.length + 1) ∧ AS N hs (tx ++ [c]) r.2.1 r.2.2.2.1 r.2.2.2.2) := by
  obtain ⟨hK, hH, hT0, hT1, hT2⟩ := h
  obtain ⟨k1, k2⟩ := chr_kX c (by omega)
  have hst : st v3 1 tx.length (nI c) 0 0 = nI tx.length := by rw [st_ne (by omega)]; exact hT1
  unfold f_X3_type f_X2_append
  rw [if_neg (show ¬ nI c < (32 : Int32) from fun e => by rw [i_lt, nI_toInt (by omega), show (32 : Int32).toInt = 32 from rfl] at e; omega), if_pos (show nI c ≤ (126 : Int32) from nI_le (b := 126) h2 (by omega)), lt1_mk, k1, hT1, if_pos (show nI tx.length < (60 : Int32) from nI_lt (b := 60) hl (by omega)), k2, wr_nI (by omega) (by omega), ob_s, hst, nI_1, lt1_mk, b2_mk, if_neg n10]
  have e00 : st (st v3 1 tx.length (nI c)) 0 0 (nI (tx.length + 1)) 0 0 = nI (tx.length + 1) := st_eq
  have el : (tx ++ [c]).length = tx.length + 1 := by simp
  refine Go.ret ⟨e00, hK, hH, by rw [el]; omega, by rw [el]; exact e00, fun i hi => ?_⟩
  show st (st v3 1 tx.length (nI c)) 0 0 (nI (tx.length + 1)) 1 i = nI ((tx ++ [c]).getD i 0)
  rw [st_ne (by omega)]
  have hi : i < tx.length + 1 := by simpa using hi
  by_cases ci : i = tx.length
  · subst ci
    rw [st_eq]
    simp [List.getD_eq_getElem?_getD]
  · rw [st_ne (by omega), hT2 i (by omega)]
    congr 1
    simp [List.getD_eq_getElem?_getD, List.getElem?_append_left (show i < tx.length by omega)]
theorem type_bad (h : AS N hs tx v1 G v3) : Go (f_X3_type v1 v2 G v3 31) (fun r => r.1 = -1 ∧ AS N hs tx r.2.1 r.2.2.2.1 r.2.2.2.2) := by
  unfold f_X3_type
  rw [if_pos (by decide)]
  exact Go.ret ⟨rfl, h⟩
theorem fault_bad (h : AS N hs tx v1 G v3) : Go (f_X3_fault v1 v2 G v3 2) (fun r => r.1 = -1 ∧ AS N hs tx r.2.1 r.2.2.2.1 r.2.2.2.2) := by
  unfold f_X3_fault
  rw [if_neg (by decide), if_neg (by decide)]
  exact Go.ret ⟨rfl, h⟩
end FD
