/-! ===== isDrawn ===== -/
theorem take4 {N : NN} {hs : List NN} : (N :: hs).take 4 = N :: hs.take 3 := rfl
theorem dwN_nW {N S : NN} {n w : Nat} {b : Int32} : nW (dwN N n w b S) = nW N := by
  unfold nW
  rw [dwN_lo (by omega)]
theorem dwN_less {N : NN} {n w : Nat} {b : Int32} (hn : n ≤ 12) (hW : ∀ w, w < n → WW N w) (hw : w < n) (hb : 0 ≤ b.toInt) : abl (dwN N n w b z0) w 12 w ≤ abl N w 12 w - (jmin b (N (8 + 12 * w + 4))).toInt := by
  have h4 : dwN N n w b z0 (8 + 12 * w + 4) = N (8 + 12 * w + 4) - jmin b (N (8 + 12 * w + 4)) := by rw [dwN_4 hw, shr_own hn hW hw]
  have hw4 := (hW w hw).2.2.2.2.2
  have hw1 := (hW w hw).2.2.1
  have hi : (N (8 + 12 * w + 4) - jmin b (N (8 + 12 * w + 4))).toInt = (N (8 + 12 * w + 4)).toInt - (jmin b (N (8 + 12 * w + 4))).toInt := fb_subI (by rw [jmin_toInt]; omega) (by rw [jmin_toInt]; omega)
  have ea : abv (dwN N n w b z0) w = abv N w := by
    unfold abv
    have := dwN_keep (N := N) (S := z0) (n := n) (w0 := w) (b := b) (h := w) (k := 0) hw (by omega) (by omega) (by omega) (by omega)
    rw [show (8 + 12 * w + 0 : Nat) = 8 + 12 * w from rfl] at this
    rw [this]
  have m1 : (mo (dwN N n w b z0) w w).toInt = (N (8 + 12 * w + 4)).toInt - (jmin b (N (8 + 12 * w + 4))).toInt := by
    unfold mo
    rw [if_pos rfl, h4, hi]
  have m2 : (mo N w w).toInt = (N (8 + 12 * w + 4)).toInt := by
    unfold mo
    rw [if_pos rfl]
  show (mo (dwN N n w b z0) w w).toInt + (if w = 0 then 0 else abl (dwN N n w b z0) w 11 (abv (dwN N n w b z0) w)) ≤ (mo N w w).toInt + (if w = 0 then 0 else abl N w 11 (abv N w)) - _
  rw [m1, m2, ea]
  by_cases c : w = 0
  · rw [if_pos c, if_pos c]; omega
  · rw [if_neg c, if_neg c]
    have := dwN_abl (w0 := w) (w1 := w) (b := b) (S := z0) hn hW hw hb z0_0 11 (abv N w) (by have := (abv_eq (hW w hw) (by omega) (by omega)).2; omega)
    omega
section ID
variable {N : NN} {hs : List NN} {tx : List Nat} {v1 v2 v3 : FV} {G : Nat → FV}
/-- true, and all as it was but for the oldest states -/
def RT (N : NN) (hs : List NN) (tx : List Nat) : Int32 × (FV × FV × (Nat → FV) × FV) → Prop := fun t => t.1 = 1 ∧ ∃ k, AS N (hs.take k) tx t.2.1 t.2.2.2.1 t.2.2.2.2
theorem RP.rt {N : NN} {hs : List NN} {tx : List Nat} {t : Int32 × (FV × FV × (Nat → FV) × FV)} (h : RP N hs tx t) : RT N hs tx t := by
  refine ⟨h.1, hs.length, ?_⟩
  rw [List.take_length]
  exact h.2
theorem id_217 (h : AS N hs tx v1 G v3) {z : Int64} (hz : PrN N z) {w : Nat} (hw : w < nW N) {b y5 : Int32} (h1 : 1 ≤ b.toInt) (h2 : b.toInt ≤ 999) (hp : b.toInt ≤ abl N w 12 w) (h5 : y5.toInt = abl N w 12 w) {q : Int32} (hq : jmin b (N (8 + 12 * w + 4)) = q) : Go (f_L_isDrawn_J217 (nI w) b z y5 (jmin b (N (8 + 12 * w + 4))) (suN N 8 (nW N) + suN N 9 (nW N)) (N (8 + 12 * w + 4)) q (jmin b (N (8 + 12 * w + 4))) v1 v2 G v3) (RT N hs tx) := by
  have hb := h.1.b
  have hW := h.1.2.1.2.2.2.2.1
  have hw4 := (hW w hw).2.2.2.2.2
  have hw1 := (hW w hw).2.2.1
  have hrg := abl_rng (w0 := w) hb.1 hW 12 w hw
  unfold f_L_isDrawn_J217
  refine Go.t hq ?_
  refine ck (drawc_go h hw h1 h2 hp) (fun t14 h14 => ?_)
  have e6 := dw_6 h.1 h14.1 (b := b) (show dwN N (nW N) w b z0 6 = N 6 + b from upd_eq)
  refine Go.rd (rc6 h14) (Go.t e6 ?_)
  have hw' : w < nW (dwN N (nW N) w b z0) := by rw [dwN_nW]; exact hw
  refine Go.b2 (able_go h14 hw') (fun x18 t18 q18 => ?_)
  obtain ⟨hx, h18⟩ := q18
  have hx : x18.toInt = abl (dwN N (nW N) w b z0) w 12 w := hx
  have h18 : AS (dwN N (nW N) w b z0) ((N :: hs).take 4) tx t18.1 t18.2.2.1 t18.2.2.2 := h18
  have hl := dwN_less (b := b) hb.1 hW hw (by omega)
  have h4 : dwN N (nW N) w b z0 (8 + 12 * w + 4) = N (8 + 12 * w + 4) - jmin b (N (8 + 12 * w + 4)) := by rw [dwN_4 hw, shr_own hb.1 hW hw]
  refine Go.f (fun e => ?_) ?_
  · rw [i_lt, fb_subI (by rw [jmin_toInt]; omega) (by rw [jmin_toInt]; omega), hx, h5] at e
    omega
  · have w4 : f_X3_wellOf t18.1 t18.2.1 t18.2.2.1 t18.2.2.2 (nI w) 4 = some (dwN N (nW N) w b z0 (8 + 12 * w + 4)) := wo_k (k := 4) h18 hw' (by omega) (by omega)
    refine Go.rd w4 (Go.t h4 ?_)
    rw [take4] at h18
    refine Go.b2 (undo_s h18) (fun x22 t22 q22 => ?_)
    obtain ⟨hx22, h22⟩ := q22
    have hx22 : x22 = nI (hs.take 3).length := hx22
    have h22 : AS N (hs.take 3) tx t22.1 t22.2.2.1 t22.2.2.2 := h22
    refine Go.f (by rw [hx22]; exact nI_pos (by have : (hs.take 3).length ≤ 3 := List.length_take_le 3 hs; omega)) ?_
    exact Go.rd (hz _ _ _ _ _ _ h22) (Go.t rfl (Go.ret ⟨rfl, 3, h22⟩))
theorem id_176 (h : AS N hs tx v1 G v3) {z : Int64} (hz : PrN N z) {w : Nat} (hw : w < nW N) {b y5 : Int32} (h1 : 1 ≤ b.toInt) (h2 : b.toInt ≤ 999) (hp : b.toInt ≤ abl N w 12 w) (h5 : y5.toInt = abl N w 12 w) : Go (f_L_isDrawn_J176 (nI w) b z y5 (sm (shr N w 12 w b z0) (nW N)) (jmin b (N (8 + 12 * w + 4))) v1 v2 G v3) (RT N hs tx) := by
  have hb := h.1.b
  have hW := h.1.2.1.2.2.2.2.1
  have w4 : f_X3_wellOf v1 v2 G v3 (nI w) 4 = some (N (8 + 12 * w + 4)) := wo_k (k := 4) h hw (by omega) (by omega)
  unfold f_L_isDrawn_J176
  refine Go.rd (rc6 h) (Go.rd w4 (Go.t (shr_all hb.1 hW hw (by omega) hp) ?_))
  by_cases c : b ≤ N (8 + 12 * w + 4)
  · refine Go.t c (id_217 h hz hw h1 h2 hp h5 ?_)
    unfold jmin
    rw [if_neg (by rw [i_lt]; rw [i_le] at c; omega)]
  · refine Go.f c (id_217 h hz hw h1 h2 hp h5 ?_)
    unfold jmin
    rw [if_pos (by rw [i_lt]; rw [i_le] at c; omega)]
theorem id_96 {z : Int64} (hz : PrN N z) {w : Nat} (hw : w < nW N) {b y5 : Int32} (h1 : 1 ≤ b.toInt) (h2 : b.toInt ≤ 999) (hp : b.toInt ≤ abl N w 12 w) (h5 : y5.toInt = abl N w 12 w) : ∀ (t i m : Nat) (v1 v2 : FV) (G : Nat → FV) (v3 : FV), i + t = nW N → AS N hs tx v1 G v3 → Go (f_L_isDrawn_L96 (m + t + 1) (nI w) b z y5 (sm (shr N w 12 w b z0) i) (jmin b (N (8 + 12 * w + 4))) (nI i) v1 v2 G v3) (RT N hs tx) := by
  intro t
  induction t with
  | zero =>
    intro i m v1 v2 G v3 hi h
    have hi : i = nW N := by omega
    have hb := h.1.b
    subst hi
    unfold f_L_isDrawn_L96
    exact Go.rd (rc0 h) (Go.t (nI_le (Nat.le_refl _) (by omega)) (id_176 h hz hw h1 h2 hp h5))
  | succ t ih =>
    intro i m v1 v2 G v3 hi h
    have hb := h.1.b
    have hW := h.1.2.1.2.2.2.2.1
    have hok := shr_ok (w0 := w) (b := b) (S := z0) hb.1 hW hw (by omega) z0_0 i (by omega)
    unfold f_L_isDrawn_L96
    refine Go.rd (rc0 h) (Go.f (nI_ge (by omega) (by omega)) (Go.b2 (gives_go h hw (g := i) (by omega) h1 h2 hp) (fun x26 t26 q26 => ?_)))
    obtain ⟨hx, h26⟩ := q26
    have hx : x26 = shr N w 12 w b z0 i := hx
    have h26 : AS N hs tx t26.1 t26.2.2.1 t26.2.2.2 := h26
    subst hx
    have w4 : f_X3_wellOf t26.1 t26.2.1 t26.2.2.1 t26.2.2.2 (nI i) 4 = some (N (8 + 12 * i + 4)) := wo_k (k := 4) h26 (by omega) (by omega) (by omega)
    have w3 : f_X3_wellOf t26.1 t26.2.1 t26.2.2.1 t26.2.2.2 (nI i) 3 = some (N (8 + 12 * i + 3)) := wo_k (k := 3) h26 (by omega) (by omega) (by omega)
    have nx : Go (f_L_isDrawn_J163 (f_L_isDrawn_L96 (m + t + 1)) (nI w) b z y5 (sm (shr N w 12 w b z0) i + shr N w 12 w b z0 i) (jmin b (N (8 + 12 * w + 4))) (nI i) t26.1 t26.2.1 t26.2.2.1 t26.2.2.2) (RT N hs tx) := by
      unfold f_L_isDrawn_J163
      rw [nI_1]
      exact ih (i + 1) m _ _ _ _ (by omega) h26
    refine Go.f (fun e => by rw [i_lt, i_0] at e; omega) (Go.rd w4 (Go.f (fun e => by rw [i_lt] at e; omega) ?_))
    by_cases c : i = w
    · exact Go.t (by rw [c]) nx
    · refine Go.f (fun e => c ((nI_eq (by omega) (by omega)).mp e)) (Go.rd w3 (Go.f (fun e => ?_) nx))
      have := shr_burst (N := N) (S := z0) (w0 := w) hb.1 hW 12 w b z0 hw (fun g hg hne => by
        show (0 : Int32).toInt ≤ _
        rw [i_0]
        exact (hW g hg).2.2.2.2.1.1) i (by omega) c
      rw [i_lt] at e
      omega
theorem isDrawn_go (h : AS N hs tx v1 G v3) {w : Nat} (hw : w < nW N) {b : Int32} (h1 : 1 ≤ b.toInt) (h2 : b.toInt ≤ 999) (hT : (N 0).toInt + 301 ≤ 50000) : Go (f_L_isDrawn v1 v2 G v3 (nI w) b) (RT N hs tx) := by
  have hb := h.1.b
  have hW := h.1.2.1.2.2.2.2.1
  unfold f_L_isDrawn
  refine Go.bind (print_go h) (fun z hz => Go.b2 (able_go h hw) (fun x2 t2 q2 => ?_))
  obtain ⟨hx, h2'⟩ := q2
  have hx : x2.toInt = abl N w 12 w := hx
  have h2' : AS N hs tx t2.1 t2.2.2.1 t2.2.2.2 := h2'
  by_cases c : b ≤ x2
  · have hp : b.toInt ≤ abl N w 12 w := by rw [i_le] at c; omega
    refine Go.t c (Go.b2 (gives_go h2' hw hw h1 h2 hp) (fun x4 t4 q4 => ?_))
    obtain ⟨hx4, h4⟩ := q4
    have hx4 : x4 = shr N w 12 w b z0 w := hx4
    have h4 : AS N hs tx t4.1 t4.2.2.1 t4.2.2.2 := h4
    rw [shr_own hb.1 hW hw] at hx4
    subst hx4
    refine Go.b2 (poss_go h4 hw h1 h2 hT) (fun x5 t5 q5 => ?_)
    obtain ⟨hx5, h5⟩ := q5
    have hx5 : PS N w b x5 := hx5
    have h5 : AS N hs tx t5.1 t5.2.2.1 t5.2.2.2 := h5
    have e0 : x5 = 0 := by
      rcases hx5 with ⟨k, hk, rfl, -, hj⟩ | ⟨-, hj⟩
      · rcases Nat.eq_zero_or_pos k with q | q
        · rw [q]; rfl
        · have h0 := hj 0 q
          have : itN 0 N = N := rfl
          rw [this] at h0
          omega
      · have h0 := hj 0 (by omega)
        have : itN 0 N = N := rfl
        rw [this] at h0
        omega
    refine Go.t e0 ?_
    obtain ⟨m, hm⟩ := FUEL_ge (k := nW N + 1) (by omega)
    rw [hm]
    exact id_96 hz hw h1 h2 hp hx (nW N) 0 m _ _ _ _ (by omega) h5
  · have hp : abl N w 12 w < b.toInt := by rw [i_le] at c; omega
    refine Go.f c (ck (drawc_no h2' hw h1 h2 hp) (fun t33 h33 => ?_))
    refine ck (gives_no h33 hw hw h1 h2 hp) (fun t35 h35 => ?_)
    refine Go.b2 (poss_go h35 hw h1 h2 hT) (fun x37 t37 q37 => ?_)
    obtain ⟨hx7, h37⟩ := q37
    have hx7 : PS N w b x37 := hx7
    have h37 : AS N hs tx t37.1 t37.2.2.1 t37.2.2.2 := h37
    have hne : ¬ x37 = 0 := by
      rcases hx7 with ⟨k, hk, rfl, hk2, -⟩ | ⟨e, -⟩
      · rcases Nat.eq_zero_or_pos k with q | q
        · exfalso
          rw [q] at hk2
          have : itN 0 N = N := rfl
          rw [this] at hk2
          omega
        · exact nI_ne0 q (by omega)
      · rw [e]; decide
    exact Go.f hne (Go.rd (hz _ _ _ _ _ _ h37) (Go.t rfl (Go.ret (RP.rt ⟨rfl, h37⟩))))
end ID
