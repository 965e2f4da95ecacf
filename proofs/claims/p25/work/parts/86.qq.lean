/-! ===== isAhead ===== -/
section IA
variable {N : NN} {hs : List NN} {tx : List Nat} {v1 v2 v3 : FV} {G : Nat → FV}
theorem ia_211 {k : Nat} (h : AS N (hs.take k) tx v1 G v3) {z : Int64} (hz : PrN N z) : Go (f_L_isAhead_J211 z v1 v2 G v3) (RT N hs tx) := by
  unfold f_L_isAhead_J211
  exact Go.rd (hz _ _ _ _ _ _ h) (Go.t rfl (Go.ret ⟨rfl, k, h⟩))
theorem ia_110 {M : NN} (h : AS M (N :: hs.take 3) tx v1 G v3) (hN : ∃ V, K2 V N) {z : Int64} (hz : PrN N z) {w : Nat} (hw : w < nW N) {b y7 : Int32} (h1 : 1 ≤ b.toInt) (h2 : b.toInt ≤ 999) (hT : (N 0).toInt + 301 ≤ 50000) (hP : PS N w b y7) : Go (f_L_isAhead_J110 (nI w) b z y7 v1 v2 G v3) (RT N hs tx) := by
  have i1 : (1 : Int32).toInt = 1 := rfl
  have i200 : (200 : Int32).toInt = 200 := rfl
  have hl3 : (hs.take 3).length ≤ 3 := List.length_take_le 3 hs
  unfold f_L_isAhead_J110
  refine Go.b2 (undo_s h) (fun x15 t15 q15 => ?_)
  obtain ⟨hx15, h15⟩ := q15
  have hx15 : x15 = nI (hs.take 3).length := hx15
  have h15 : AS N (hs.take 3) tx t15.1 t15.2.2.1 t15.2.2.2 := h15
  refine Go.f (by rw [hx15]; exact nI_pos (by omega)) (Go.rd (hz _ _ _ _ _ _ h15) (Go.t rfl ?_))
  by_cases c1 : y7 ≤ 1
  · exact Go.t c1 (ia_211 h15 hz)
  refine Go.f c1 ?_
  by_cases c2 : 200 < y7
  · exact Go.t c2 (ia_211 h15 hz)
  refine Go.f c2 ?_
  rcases hP with ⟨k, hk, rfl, hab, hlow⟩ | ⟨e, -⟩
  · rw [i_le, nI_toInt (by omega), i1] at c1
    rw [i_lt, nI_toInt (by omega), i200] at c2
    have e1 : nI k - 1 = nI (k - 1) := by rw [show (1 : Int32) = nI 1 from rfl, nI_subN (by omega)]
    have hb15 := h15.1.b
    rw [e1]
    refine Go.b2 (tick_go h15 (P := k - 1) (by omega) (by omega) (by omega)) (fun x23 t23 q23 => ?_)
    obtain ⟨hx23, hTF, -, h23⟩ := q23
    have hx23 : x23 = nI (nQ N - nQ (itN (k - 1) N)) := hx23
    have h23 : AS (itN (k - 1) N) ((N :: hs.take 3).take 4) tx t23.1 t23.2.2.1 t23.2.2.2 := h23
    have hw23 : w < nW (itN (k - 1) N) := by rw [hTF.well]; exact hw
    refine Go.f (by rw [hx23]; exact nI_pos (by omega)) (Go.b2 (able_go h23 hw23) (fun x25 t25 q25 => ?_))
    obtain ⟨hx25, h25⟩ := q25
    have hx25 : x25.toInt = abl (itN (k - 1) N) w 12 w := hx25
    have h25 : AS (itN (k - 1) N) ((N :: hs.take 3).take 4) tx t25.1 t25.2.2.1 t25.2.2.2 := h25
    have hlt := hlow (k - 1) (by omega)
    refine Go.f (fun e => by rw [i_le, hx25] at e; omega) ?_
    have hb25 := h25.1.b
    refine Go.b2 (tick_go h25 (P := 1) (by omega) (by omega) (by rw [hTF.1]; omega)) (fun x27 t27 q27 => ?_)
    obtain ⟨hx27, hTF2, -, h27⟩ := q27
    have ek : itN 1 (itN (k - 1) N) = itN k N := by rw [← itN_add, show k - 1 + 1 = k by omega]
    rw [ek] at hTF2
    have hx27 : x27 = nI (nQ (itN (k - 1) N) - nQ (itN 1 (itN (k - 1) N))) := hx27
    have h27 : AS (itN 1 (itN (k - 1) N)) ((itN (k - 1) N :: (N :: hs.take 3).take 4).take 4) tx t27.1 t27.2.2.1 t27.2.2.2 := h27
    rw [ek, take4, take4] at h27
    have hw27 : w < nW (itN k N) := by rw [hTF2.well]; exact hw23
    refine Go.f (by rw [hx27]; exact nI_pos (by omega)) (Go.b2 (able_go h27 hw27) (fun x29 t29 q29 => ?_))
    obtain ⟨hx29, h29⟩ := q29
    have hx29 : x29.toInt = abl (itN k N) w 12 w := hx29
    have h29 : AS (itN k N) (itN (k - 1) N :: (N :: (hs.take 3).take 3).take 3) tx t29.1 t29.2.2.1 t29.2.2.2 := h29
    refine Go.f (fun e => by rw [i_lt, hx29] at e; omega) (Go.b2 (undo_s h29) (fun x31 t31 q31 => ?_))
    obtain ⟨hx31, h31⟩ := q31
    have hx31 : x31 = nI ((N :: (hs.take 3).take 3).take 3).length := hx31
    have h31 : AS (itN (k - 1) N) (N :: ((hs.take 3).take 3).take 2) tx t31.1 t31.2.2.1 t31.2.2.2 := h31
    refine Go.f (by rw [hx31]; exact nI_pos (by have : ((N :: (hs.take 3).take 3).take 3).length ≤ 3 := List.length_take_le _ _; omega)) (Go.b2 (undo_s h31) (fun x33 t33 q33 => ?_))
    obtain ⟨hx33, h33⟩ := q33
    have hx33 : x33 = nI (((hs.take 3).take 3).take 2).length := hx33
    have h33 : AS N (((hs.take 3).take 3).take 2) tx t33.1 t33.2.2.1 t33.2.2.2 := h33
    refine Go.f (by rw [hx33]; exact nI_pos (by have : (((hs.take 3).take 3).take 2).length ≤ 2 := List.length_take_le _ _; omega)) ?_
    rw [List.take_take, List.take_take, show min (min 2 3) 3 = 2 by omega] at h33
    exact ia_211 h33 hz
  · exact absurd (by rw [e]; decide) c1
theorem ia_88 {M : NN} {t : Nat} (hM : M = itN t N) (h : AS M (N :: hs.take 3) tx v1 G v3) (hN : ∃ V, K2 V N) {z : Int64} (hz : PrN N z) {w : Nat} (hw : w < nW N) (hwM : w < nW M) {b y7 : Int32} (h1 : 1 ≤ b.toInt) (h2 : b.toInt ≤ 999) (ht : t ≤ 300) (hT : (N 0).toInt + 301 ≤ 50000) (hP : PS N w b y7) : Go (f_L_isAhead_J88 (nI w) (nI t) b z y7 v1 v2 G v3) (RT N hs tx) := by
  unfold f_L_isAhead_J88
  by_cases c1 : y7 = -4
  · exact Go.t c1 (ia_110 h hN hz hw h1 h2 hT hP)
  refine Go.f c1 ?_
  by_cases c2 : y7 ≤ nI t
  · exact Go.t c2 (ia_110 h hN hz hw h1 h2 hT hP)
  refine Go.f c2 (Go.b2 (able_go h hwM) (fun x36 t36 q36 => ?_))
  obtain ⟨hx36, h36⟩ := q36
  have hx36 : x36.toInt = abl M w 12 w := hx36
  have h36 : AS M (N :: hs.take 3) tx t36.1 t36.2.2.1 t36.2.2.2 := h36
  refine Go.f (fun e => ?_) (ia_110 h36 hN hz hw h1 h2 hT hP)
  rcases hP with ⟨k, hk, rfl, -, hlow⟩ | ⟨e4, -⟩
  · rw [i_le, nI_toInt (by omega), nI_toInt (by omega)] at c2
    have := hlow t (by omega)
    rw [i_le, hx36, hM] at e
    omega
  · exact c1 e4
theorem isAhead_go (h : AS N hs tx v1 G v3) {w t : Nat} (hw : w < nW N) (ht1 : 1 ≤ t) (ht : t ≤ 200) {b : Int32} (h1 : 1 ≤ b.toInt) (h2 : b.toInt ≤ 999) (hT : (N 0).toInt + 301 ≤ 50000) : Go (f_L_isAhead v1 v2 G v3 (nI w) (nI t) b) (RT N hs tx) := by
  have hb := h.1.b
  unfold f_L_isAhead
  refine Go.bind (print_go h) (fun z hz => Go.b2 (water_go h hw (t := t) (by omega) (by omega)) (fun x2 t2 q2 => ?_))
  obtain ⟨hx2, h2'⟩ := q2
  have hx2 : x2 = itN t N (8 + 12 * w + 4) := hx2
  have h2' : AS N hs tx t2.1 t2.2.2.1 t2.2.2.2 := h2'
  refine Go.b2 (poss_go h2' hw h1 h2 hT) (fun x3 t3 q3 => ?_)
  obtain ⟨hx3, h3⟩ := q3
  have hx3 : PS N w b x3 := hx3
  have h3 : AS N hs tx t3.1 t3.2.2.1 t3.2.2.2 := h3
  refine Go.rd (rc11 h3) (Go.b2 (water_go (t := 0) h3 hw (by omega) (by omega)) (fun x5 t5 q5 => ?_))
  obtain ⟨hx5, h5⟩ := q5
  have hx5 : x5 = N (8 + 12 * w + 4) := hx5
  have h5 : AS N hs tx t5.1 t5.2.2.1 t5.2.2.2 := h5
  have w4 : f_X3_wellOf t5.1 t5.2.1 t5.2.2.1 t5.2.2.2 (nI w) 4 = some (N (8 + 12 * w + 4)) := wo_k (k := 4) h5 hw (by omega) (by omega)
  refine Go.rd w4 (Go.t hx5 (Go.b2 (tick_go h5 (P := t) ht1 ht (by omega)) (fun x8 t8 q8 => ?_)))
  obtain ⟨hx8, hTF, -, h8⟩ := q8
  have hx8 : x8 = nI (nQ N - nQ (itN t N)) := hx8
  have h8 : AS (itN t N) ((N :: hs).take 4) tx t8.1 t8.2.2.1 t8.2.2.2 := h8
  rw [take4] at h8
  have hw8 : w < nW (itN t N) := by rw [hTF.well]; exact hw
  refine Go.rd (rc11 h8) (Go.t ?_ ?_)
  · rw [hx8, hTF.2.2.1]; grind
  · have w48 : f_X3_wellOf t8.1 t8.2.1 t8.2.2.1 t8.2.2.2 (nI w) 4 = some (itN t N (8 + 12 * w + 4)) := wo_k (k := 4) h8 hw8 (by omega) (by omega)
    refine Go.rd w48 (Go.t hx2.symm ?_)
    by_cases c : x3 = nI t
    · refine Go.t c (Go.b2 (able_go h8 hw8) (fun x38 t38 q38 => ?_))
      obtain ⟨hx38, h38⟩ := q38
      have hx38 : x38.toInt = abl (itN t N) w 12 w := hx38
      have h38 : AS (itN t N) (N :: hs.take 3) tx t38.1 t38.2.2.1 t38.2.2.2 := h38
      refine Go.f (fun e => ?_) (ia_88 rfl h38 ⟨_, h.1⟩ hz hw hw8 h1 h2 (by omega) hT hx3)
      rcases hx3 with ⟨k, hk, e3, hab, -⟩ | ⟨e4, -⟩
      · rw [e3] at c
        have ek := (nI_eq (by omega) (by omega)).mp c
        subst ek
        rw [i_lt, hx38] at e
        omega
      · rw [e4] at c
        have c := congrArg Int32.toInt c
        rw [nI_toInt (by omega), show (-4 : Int32).toInt = -4 from rfl] at c
        omega
    · exact Go.f c (ia_88 rfl h8 ⟨_, h.1⟩ hz hw hw8 h1 h2 (by omega) hT hx3)
end IA
