/-! ===== the law's cases ===== -/
section LC
variable {L : Nat} {xs : Nat → Int32} {k85 : Int32 → FV → FV → (Nat → FV) → FV → Option (Int32 × (FV × FV × (Nat → FV) × FV))} {N : NN} {hs : List NN} {tx : List Nat} {v1 v2 v3 : FV} {G : Nat → FV} {T : Int} {t v w b : Nat}
/-- what stands at the head of a turn -/
def HD (T : Int) (t v w b : Nat) (N : NN) (hs : List NN) : Prop := (N 0).toInt ≤ T ∧ (∀ M ∈ hs, (M 0).toInt ≤ T) ∧ T + 400 ≤ 50000 ∧ t < 30 ∧ v < 8192 ∧ w < 8192 ∧ 1 ≤ b ∧ b ≤ 90
def NX' (T : Int) (t : Nat) (k85 : Int32 → FV → FV → (Nat → FV) → FV → Option (Int32 × (FV × FV × (Nat → FV) × FV))) : Prop := ∀ v1 v2 G v3, LB (T + 50) v1 G v3 → Go (k85 (nI (t + 1)) v1 v2 G v3) Tr
theorem lc_end {y12 : Int32} (h : LB (T + 50) v1 G v3) (hy : -3 ≤ y12.toInt) (H : HD T t v w b N hs) (hk : NX' T t k85) : Go (f_L_law_J1143 L xs k85 (nI t) (nI v) (nI w) (nI b) y12 v1 v2 G v3) Tr :=
  lt_1143 h hy (by have := H.2.2.1; omega) H.2.2.2.1 H.2.2.2.2.1 H.2.2.2.2.2.1 H.2.2.2.2.2.2 hk
theorem HD.same (H : HD T t v w b N hs) (h : AS N hs tx v1 G v3) : LB (T + 50) v1 G v3 := ⟨N, hs, tx, h, by have := H.1; omega, fun M hM => by have := H.2.1 M hM; omega⟩
theorem HD.new (H : HD T t v w b N hs) {N' : NN} (h : AS N' ((N :: hs).take 4) tx v1 G v3) (e : (N' 0).toInt ≤ T + 50) : LB (T + 50) v1 G v3 := LB.of h H.1 H.2.1 (by omega) e
theorem md (H : HD T t v w b N hs) {n : Nat} (h0 : 0 < n) (hn : n ≤ 8192) : nI v - nI v / nI n * nI n = nI (v % n) ∧ nI w - nI w / nI n * nI n = nI (w % n) ∧ nI b - nI b / nI n * nI n = nI (b % n) :=
  ⟨modn H.2.2.2.2.1 h0 hn, modn H.2.2.2.2.2.1 h0 hn, modn (by have := H.2.2.2.2.2.2; omega) h0 hn⟩
theorem lc_288 (h : AS N hs tx v1 G v3) (H : HD T t v w b N hs) (hk : NX' T t k85) {z0 : Int32} (k0 : nW N = 0 → z0 = -1) (ka : 0 < nW N → ∃ a, a < nW N ∧ z0 = nI a) : Go (f_L_law_J288 L xs k85 (nI t) (nI (nW N)) (nI v) (nI w) (nI b) z0 v1 v2 G v3) Tr := by
  have hbd := h.1.b
  have m1 := (md H (n := 120) (by omega) (by omega)).1
  have m2 := (md H (n := 12) (by omega) (by omega)).2.1
  have m3 := (md H (n := 40) (by omega) (by omega)).1
  have l1 := Nat.mod_lt v (show 120 > 0 by omega)
  have l2 := Nat.mod_lt w (show 12 > 0 by omega)
  have l3 := Nat.mod_lt v (show 40 > 0 by omega)
  have t1 : (nI (1 + v % 120)).toInt = (1 + v % 120 : Nat) := nI_toInt (by omega)
  have t2 : (nI (w % 12)).toInt = (w % 12 : Nat) := nI_toInt (by omega)
  have t3 : (nI (v % 40)).toInt = (v % 40 : Nat) := nI_toInt (by omega)
  unfold f_L_law_J288
  rw [show (120 : Int32) = nI 120 from rfl, show (12 : Int32) = nI 12 from rfl, show (40 : Int32) = nI 40 from rfl, m1, m2, m3, show (1 : Int32) = nI 1 from rfl, nI_add]
  rcases Nat.lt_or_ge (nW N) 12 with c | c
  · have hgo := chg_ok (opC := fun V => f_X0_addWell V z0 (nI (1 + v % 120)) (nI (w % 12)) (nI (v % 40))) (v2 := v2) h (nI_pos (by omega)) (well_K2 h.1 c k0 ka (by omega) (by omega) (by omega))
    refine Go.b2 hgo (fun x33 t33 q => ?_)
    obtain ⟨hx, h33⟩ := q
    have hx : x33 = nI (nW N) := hx
    have h33 : AS (nwN N (nW N) z0 (nI (1 + v % 120)) (nI (w % 12)) (nI (v % 40))) ((N :: hs).take 4) tx t33.1 t33.2.2.1 t33.2.2.2 := h33
    have e3 : nW (nwN N (nW N) z0 (nI (1 + v % 120)) (nI (w % 12)) (nI (v % 40))) = nW N + 1 := nW_of upd_eq (by omega)
    have e0 : nwN N (nW N) z0 (nI (1 + v % 120)) (nI (w % 12)) (nI (v % 40)) 0 = N 0 := nwN_far (by omega) (by omega)
    have w4 : f_X3_wellOf t33.1 t33.2.1 t33.2.2.1 t33.2.2.2 (nI (nW N)) 4 = some 0 := by
      rw [show (4 : Int32) = nI 4 from rfl, wo_k h33 (by omega) (by omega) (by omega), nwN_r (by omega) (by omega)]
    have ty : (nI (nW N)).toInt = nW N := nI_toInt (by omega)
    rw [hx]
    refine Go.f (fun e => by have := congrArg Int32.toInt e; rw [ty, show (-3 : Int32).toInt = -3 from rfl] at this; omega) (Go.t rfl (Go.rd w4 (Go.t rfl ?_)))
    exact lc_end (H.new h33 (by rw [e0]; have := H.1; omega)) (by omega) H hk
  · have hn : nW N = 12 := by omega
    obtain ⟨a, ha, rfl⟩ := ka (by omega)
    refine Go.b2 (well_fullc (a := a) (v2 := v2) h hn (by omega) (by omega) (by omega) (by omega)) (fun x33 t33 q => ?_)
    obtain ⟨hx, h33⟩ := q
    have hx : x33 = -3 := hx
    exact Go.t hx (lc_end (H.same h33) (by rw [hx]; decide) H hk)
theorem lc_276 (h : AS N hs tx v1 G v3) (H : HD T t v w b N hs) (hk : NX' T t k85) {y8 : Int32} (k8 : 0 < nW N → ∃ a, a < nW N ∧ y8 = nI a) : Go (f_L_law_J276 L xs k85 (nI t) (nI (nW N)) (nI v) (nI w) y8 (nI b) v1 v2 G v3) Tr := by
  have hbd := h.1.b
  unfold f_L_law_J276
  rcases Nat.eq_zero_or_pos (nW N) with c | c
  · exact Go.t (by rw [c]; rfl) (lc_288 h H hk (fun _ => rfl) (fun q => absurd q (by omega)))
  · exact Go.f (nI_ne0 c (by omega)) (lc_288 h H hk (fun q => absurd q (by omega)) k8)
theorem lc_343 (h : AS N hs tx v1 G v3) (H : HD T t v w b N hs) (hk : NX' T t k85) {a : Nat} (ha : a < nW N) : Go (f_L_law_J343 L xs k85 (nI t) (nI v) (nI w) (nI a) (nI b) v1 v2 G v3) Tr := by
  have hbd := h.1.b
  have hlo := h.1.2.1.2.1.1
  have hN := H.1
  have hT := H.2.2.1
  have m1 := (md H (n := 9) (by omega) (by omega)).1
  have m2 := (md H (n := 30) (by omega) (by omega)).2.1
  have l1 := Nat.mod_lt v (show 9 > 0 by omega)
  have l2 := Nat.mod_lt w (show 30 > 0 by omega)
  have t1 : (nI (v % 9)).toInt = (v % 9 : Nat) := nI_toInt (by omega)
  have t2 : (nI (w % 30)).toInt = (w % 30 : Nat) := nI_toInt (by omega)
  have i1 : (1 : Int32).toInt = 1 := rfl
  have i9 : (9 : Int32).toInt = 9 := rfl
  have s1 : (N 0 + 1).toInt = (N 0).toInt + 1 := by rw [fb_addI (by omega) (by omega), i1]
  have s2 : (N 0 + 9).toInt = (N 0).toInt + 9 := by rw [fb_addI (by omega) (by omega), i9]
  have s3 : ((N 0 + 1) + nI (v % 9)).toInt = (N 0).toInt + 1 + (v % 9 : Nat) := by rw [fb_addI (by omega) (by omega), s1, t1]
  have s4 : ((N 0 + 9) + nI (w % 30)).toInt = (N 0).toInt + 9 + (w % 30 : Nat) := by rw [fb_addI (by omega) (by omega), s2, t2]
  unfold f_L_law_J343
  refine Go.rd (rc2 h) (Go.rd (rc2 h) ?_)
  rw [show ((9 : Int32)) = nI 9 from rfl] at s2 s4 ⊢
  rw [m1, show (30 : Int32) = nI 30 from rfl, m2]
  rcases Nat.lt_or_ge (nD N) 20 with c | c
  · obtain ⟨V', N', e1, hK', e2, e3, e4⟩ := drought_K2 h.1 c ha (p2 := (N 0 + 1) + nI (v % 9)) (p3 := (N 0 + nI 9) + nI (w % 30)) (by omega) (by omega) (by omega)
    refine Go.b2 (chg_ok (opC := fun V => f_X0_addDrought V (nI a) ((N 0 + 1) + nI (v % 9)) ((N 0 + nI 9) + nI (w % 30))) (v2 := v2) h (nI_pos (by omega)) ⟨V', e1, hK'⟩) (fun x59 t59 q => ?_)
    obtain ⟨hx, h59⟩ := q
    have hx : x59 = nI (nD N) := hx
    have h59 : AS N' ((N :: hs).take 4) tx t59.1 t59.2.2.1 t59.2.2.2 := h59
    have ty : (nI (nD N)).toInt = nD N := nI_toInt (by omega)
    have d1 := dr_k (v2 := t59.2.1) h59 (i := nD N) (by omega)
    rw [e3] at d1
    rw [hx]
    refine Go.f (fun e => by have := congrArg Int32.toInt e; rw [ty, show (-3 : Int32).toInt = -3 from rfl] at this; omega) (Go.rd (rc1 h59) (Go.t (by rw [e2, nI_pred]) (Go.rd d1 (Go.t rfl ?_))))
    exact lc_end (H.new h59 (by rw [e4]; omega)) (by omega) H hk
  · have hd : nD N = 20 := by omega
    refine Go.b2 (chg_err (opC := fun V => f_X0_addDrought V (nI a) ((N 0 + 1) + nI (v % 9)) ((N 0 + nI 9) + nI (w % 30))) (v2 := v2) h (r := -3) (by decide) ⟨v1, drought_full h.1 hd ha (by omega) (by omega) (by omega), h.1⟩) (fun x59 t59 q => ?_)
    obtain ⟨hx, h59⟩ := q
    have hx : x59 = -3 := hx
    exact Go.t hx (lc_end (H.same h59) (by rw [hx]; decide) H hk)
theorem lc_418 (h : AS N hs tx v1 G v3) (H : HD T t v w b N hs) (hk : NX' T t k85) {a : Nat} (ha : a < nW N) : Go (f_L_law_J418 L xs k85 (nI t) (nI v) (nI w) (nI a) (nI b) (suN N 8 (nW N) + suN N 9 (nW N)) v1 v2 G v3) Tr := by
  have hbd := h.1.b
  have hN := H.1
  obtain ⟨-, -, -, -, -, -, hb1, hb2⟩ := id H
  have tb : (nI b).toInt = b := nI_toInt (by omega)
  have hw4 := (h.1.2.1.2.2.2.2.1 a ha).2.2.2.2.2
  unfold f_L_law_J418
  refine Go.b2 (able_go h ha) (fun x66 t66 q => ?_)
  obtain ⟨hx, h66⟩ := q
  have hx : x66.toInt = abl N a 12 a := hx
  have h66 : AS N hs tx t66.1 t66.2.2.1 t66.2.2.2 := h66
  by_cases c : nI b ≤ x66
  · have hp : (nI b).toInt ≤ abl N a 12 a := by rw [i_le] at c; omega
    refine Go.b2 (drawc_go h66 ha (by omega) (by omega) hp) (fun x67 t67 q => ?_)
    obtain ⟨hx67, h67⟩ := q
    have hx67 : x67 = nI b - jmin (nI b) (N (8 + 12 * a + 4)) := hx67
    have h67 : AS (dwN N (nW N) a (nI b) z0) ((N :: hs).take 4) tx t67.1 t67.2.2.1 t67.2.2.2 := h67
    have h0 : 0 ≤ x67.toInt := by rw [hx67, fb_subI (by rw [jmin_toInt]; omega) (by rw [jmin_toInt]; omega), jmin_toInt]; omega
    have e6 := dw_6 h.1 h67.1 (b := nI b) (show dwN N (nW N) a (nI b) z0 6 = N 6 + nI b from upd_eq)
    refine Go.t c (Go.f (by rw [i_lt, i_0]; omega) (Go.rd (rc6 h67) (Go.t e6 ?_)))
    exact lc_end (H.new h67 (by rw [dwN_lo (by omega)]; omega)) (by omega) H hk
  · have hp : abl N a 12 a < (nI b).toInt := by rw [i_le] at c; omega
    refine Go.b2 (drawc_no h66 ha (by omega) (by omega) hp) (fun x67 t67 q => ?_)
    obtain ⟨hx67, h67⟩ := q
    have hx67 : x67 = -2 := hx67
    exact Go.f c (Go.t hx67 (lc_end (H.same h67) (by rw [hx67]; decide) H hk))
end LC
