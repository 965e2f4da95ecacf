/-! ===== addsUp ===== -/
theorem nI_mod {a d : Nat} (ha : a < 2 ^ 31) (h0 : 0 < d) (hd : d < 2 ^ 31) : nI a - nI a / nI d * nI d = nI (a % d) := by
  rw [pk_div ha h0 hd, pk_mul, nI_subN (Nat.div_mul_le_self a d)]
  congr 1
  have h := Nat.div_add_mod a d
  rw [Nat.mul_comm] at h
  omega
theorem tod_rng {n d q : Nat} {N : NN} (h : Wf n d q 50000 N) : 0 ≤ (tod N).toInt ∧ (tod N).toInt < (N 1).toInt := by
  have h0 := h.2.1
  have h1 := h.2.2.1
  have e0 := nI_ofInt (x := N 0) h0.1
  have e1 := nI_ofInt (x := N 1) (by omega)
  have hm : tod N = nI ((N 0).toInt.toNat % (N 1).toInt.toNat) := by
    unfold tod
    have := nI_mod (a := (N 0).toInt.toNat) (d := (N 1).toInt.toNat) (by omega) (by omega) (by omega)
    rw [← e0, ← e1] at this
    exact this
  have hl := Nat.mod_lt (N 0).toInt.toNat (show (N 1).toInt.toNat > 0 by omega)
  rw [hm, nI_toInt (by omega)]
  omega
section AU
variable {N : NN} {hs : List NN} {tx : List Nat} {v1 v2 v3 : FV} {G : Nat → FV}
theorem au_400 (h : AS N hs tx v1 G v3) {y1 y2 y3 y4 y5 y6 y7 : Int32} (e1 : y1 = suN N 4 (nW N)) (e2 : y2 = suN N 6 (nW N)) (e3 : y3 = suN N 7 (nW N)) (e4 : y4 = suN N 8 (nW N) + suN N 9 (nW N)) (e5 : y5 = suN N 10 (nW N)) (e6 : y6 = suN N 11 (nW N)) (e7 : y7 = suN N 5 (nW N)) : Go (f_L_addsUp_J400 v1 v2 G v3 y1 y2 y3 y4 y5 y6 y7) (fun r => r = 1) := by
  obtain ⟨c0, c1, c2, c3, c4, c5, c6, c7, c8, c9, c10, c11, c12, c13, c14, c20, c21, -, -⟩ := rd_cnt (v2 := v2) h
  have hb := h.1.b
  have hS := h.1.2.2.2.1
  have ht := tod_rng h.1.2.1
  have hd := h.1.2.1.2.2.1
  have i1 : (1 : Int32).toInt = 1 := rfl
  have hs12 : (N 1 - tod N).toInt = (N 1).toInt - (tod N).toInt := fb_subI (by omega) (by omega)
  subst e1; subst e2; subst e3; subst e4; subst e5; subst e6; subst e7
  unfold f_L_addsUp_J400
  refine Go.rd c3 (Go.t rfl (Go.rd c4 (Go.t rfl (Go.rd c6 (Go.t hS.1 (Go.rd c5 (Go.t rfl (Go.rd c6 (Go.t rfl (Go.rd c7 (Go.t rfl (Go.rd c8 (Go.t rfl (Go.rd c9 (Go.t rfl (Go.t ?_ (Go.rd c10 (Go.f ?_ (Go.rd c12 (Go.f ?_ (Go.rd c12 (Go.rd c20 (Go.f ?_ (Go.ret rfl))))))))))))))))))))))))
  · rw [hS.2]; grind
  · exact fun e => by rw [i_lt, nI_toInt (by omega), show (8 : Int32).toInt = 8 from rfl] at e; omega
  · exact fun e => by rw [i_lt, hs12, i1] at e; omega
  · exact fun e => by rw [i_lt, hs12] at e; omega
theorem au_331 (h : AS N hs tx v1 G v3) {y1 y2 y3 y4 y5 y6 y7 : Int32} (e1 : y1 = suN N 4 (nW N)) (e2 : y2 = suN N 6 (nW N)) (e3 : y3 = suN N 7 (nW N)) (e4 : y4 = suN N 8 (nW N) + suN N 9 (nW N)) (e5 : y5 = suN N 10 (nW N)) (e6 : y6 = suN N 11 (nW N)) (e7 : y7 = suN N 5 (nW N)) : ∀ (t i m : Nat), i + t = nQ N → Go (f_L_addsUp_L331 v1 v2 G v3 (m + t + 1) y1 y2 y3 y4 y5 y6 y7 (nI (i + 1))) (fun r => r = 1) := by
  have hb := h.1.b
  have hQ := h.1.2.2.2.2
  intro t
  induction t with
  | zero =>
    intro i m hi
    unfold f_L_addsUp_L331
    exact Go.rd (rc10 h) (Go.t (nI_lt (by omega) (by omega)) (au_400 h e1 e2 e3 e4 e5 e6 e7))
  | succ t ih =>
    intro i m hi
    have q2 : f_X3_requestAt v1 v2 G v3 (nI (i + 1)) 2 = some (N (212 + 3 * i + 2)) := rq_k (k := 2) h (by omega) (by omega)
    have nx : Go (f_L_addsUp_J387 v1 v2 G v3 (f_L_addsUp_L331 v1 v2 G v3 (m + t + 1)) y1 y2 y3 y4 y5 y6 y7 (nI (i + 1))) (fun r => r = 1) := by
      unfold f_L_addsUp_J387
      rw [nI_1]
      exact ih (i + 1) m (by omega)
    unfold f_L_addsUp_L331
    refine Go.rd (rc10 h) (Go.f (fun e => by rw [i_lt, nI_toInt (by omega), nI_toInt (by omega)] at e; omega) ?_)
    refine Go.rd q2 (Go.rd (rc2 h) (Go.f (fun e => by rw [i_lt] at e; have := hQ.1 i (by omega); omega) ?_))
    by_cases c : i = 0
    · subst c
      exact Go.t rfl nx
    · have e1' : nI (i + 1) - 1 = nI (i - 1 + 1) := by rw [nI_sub1]; congr 1; omega
      have q1 : f_X3_requestAt v1 v2 G v3 (nI (i + 1) - 1) 2 = some (N (212 + 3 * (i - 1) + 2)) := by rw [e1']; exact rq_k (k := 2) h (by omega) (by omega)
      refine Go.f (fun e => c (by have := (nI_eq (a := i + 1) (b := 1) (by omega) (by omega)).mp e; omega)) (Go.rd q2 (Go.rd q1 (Go.f (fun e => ?_) nx)))
      have := hQ.2 (i - 1) (by omega)
      rw [show i - 1 + 1 = i by omega] at this
      rw [i_lt] at e
      omega
theorem au_328 (h : AS N hs tx v1 G v3) {y1 y2 y3 y4 y5 y6 y7 : Int32} (e1 : y1 = suN N 4 (nW N)) (e2 : y2 = suN N 6 (nW N)) (e3 : y3 = suN N 7 (nW N)) (e4 : y4 = suN N 8 (nW N) + suN N 9 (nW N)) (e5 : y5 = suN N 10 (nW N)) (e6 : y6 = suN N 11 (nW N)) (e7 : y7 = suN N 5 (nW N)) : Go (f_L_addsUp_J328 v1 v2 G v3 y1 y2 y3 y4 y5 y6 y7) (fun r => r = 1) := by
  obtain ⟨m, hm⟩ := FUEL_ge (k := nQ N + 1) (by have := h.1.b; omega)
  unfold f_L_addsUp_J328
  rw [hm]
  exact au_331 h e1 e2 e3 e4 e5 e6 e7 (nQ N) 0 m (by omega)
/-- the wells right below, from the i-th on -/
theorem bl_split {n : Nat} {p : Int32} : ∀ k, bl N p (k + 1) = bl N p k + (if N (8 + 12 * k) = p then 1 else 0) := fun _ => rfl
theorem bl_low (h : K2 v1 N) {w : Nat} (hw : w < nW N) : ∀ k, k ≤ w + 1 → bl N (nI w) k = 0 := by
  have hb := h.b
  intro k
  induction k with
  | zero => intro _; rfl
  | succ k ih =>
    intro hk
    show bl N (nI w) k + (if N (8 + 12 * k) = nI w then 1 else 0) = 0
    rw [ih (by omega), up_above h (by omega)]
    by_cases c : k = 0
    · rw [if_pos c, if_neg (fun e => by
        have e := congrArg Int32.toInt e
        rw [nI_toInt (by omega), show (-1 : Int32).toInt = -1 from rfl] at e
        omega)]
      rfl
    · have hlt := (abv_eq (h.2.1.2.2.2.2.1 k (by omega)) (by omega) (by omega)).2
      rw [if_neg c, if_neg (fun e => by have := (nI_eq (by omega) (by omega)).mp e; omega)]
      rfl
theorem au_155 (h : AS N hs tx v1 G v3) {k24 : Int32 → Int32 → Int32 → Int32 → Int32 → Int32 → Int32 → Int32 → Option Int32} {w dp : Nat} (hw : w < nW N) (hpos : ∀ j, j < dp → 0 < upN N j w) (hz : upN N dp w = 0)
    (hk : Go (k24 (suN N 4 (w + 1)) (suN N 6 (w + 1)) (suN N 7 (w + 1)) (suN N 8 (w + 1) + suN N 9 (w + 1)) (suN N 10 (w + 1)) (suN N 11 (w + 1)) (suN N 5 (w + 1)) (nI (w + 1))) (fun r => r = 1)) :
    Go (f_L_addsUp_J155 v1 v2 G v3 k24 (suN N 4 w) (suN N 6 w) (suN N 7 w) (suN N 8 w + suN N 9 w) (suN N 10 w) (suN N 11 w) (suN N 5 w) (nI w) (bl N (nI w) (nW N)) (nI dp)) (fun r => r = 1) := by
  have hb := h.1.b
  have hW := h.1.2.1.2.2.2.2.1 w hw
  have hC := h.1.2.2.1 w hw
  have w4 : f_X3_wellOf v1 v2 G v3 (nI w) 4 = some (N (8 + 12 * w + 4)) := wo_k (k := 4) h hw (by omega) (by omega)
  have w6 : f_X3_wellOf v1 v2 G v3 (nI w) 6 = some (N (8 + 12 * w + 6)) := wo_k (k := 6) h hw (by omega) (by omega)
  have w7 : f_X3_wellOf v1 v2 G v3 (nI w) 7 = some (N (8 + 12 * w + 7)) := wo_k (k := 7) h hw (by omega) (by omega)
  have w8 : f_X3_wellOf v1 v2 G v3 (nI w) 8 = some (N (8 + 12 * w + 8)) := wo_k (k := 8) h hw (by omega) (by omega)
  have w9 : f_X3_wellOf v1 v2 G v3 (nI w) 9 = some (N (8 + 12 * w + 9)) := wo_k (k := 9) h hw (by omega) (by omega)
  have w10 : f_X3_wellOf v1 v2 G v3 (nI w) 10 = some (N (8 + 12 * w + 10)) := wo_k (k := 10) h hw (by omega) (by omega)
  have w11 : f_X3_wellOf v1 v2 G v3 (nI w) 11 = some (N (8 + 12 * w + 11)) := wo_k (k := 11) h hw (by omega) (by omega)
  have w5 : f_X3_wellOf v1 v2 G v3 (nI w) 5 = some (N (8 + 12 * w + 5)) := wo_k (k := 5) h hw (by omega) (by omega)
  have w1 : f_X3_wellOf v1 v2 G v3 (nI w) 1 = some (N (8 + 12 * w + 1)) := wo_k (k := 1) h hw (by omega) (by omega)
  have wa := above_val (v2 := v2) h hw hpos
  rw [if_pos hz] at wa
  unfold f_L_addsUp_J155
  refine Go.rd w4 (Go.rd w6 (Go.rd w7 (Go.rd w8 (Go.rd w9 (Go.rd w10 (Go.rd w11 (Go.rd w5 (rk wa (Go.rd w4 (Go.f ?_ (Go.rd w4 (Go.rd w1 (Go.f ?_ (Go.rd w5 (Go.f ?_ (rk (wo_12 h hw) ?_))))))))))))))))
  · exact fun e => by rw [i_lt, i_0] at e; have := hW.2.2.2.2.2; omega
  · exact fun e => by rw [i_lt] at e; have := hW.2.2.2.2.2; omega
  · exact fun e => by rw [i_lt, i_0] at e; omega
  · rw [nI_1]
    have e : suN N 8 w + suN N 9 w + (N (8 + 12 * w + 8) + N (8 + 12 * w + 9)) = suN N 8 (w + 1) + suN N 9 (w + 1) := by
      show _ = (suN N 8 w + N (8 + 12 * w + 8)) + (suN N 9 w + N (8 + 12 * w + 9))
      grind
    rw [e]
    exact hk
theorem au_93 (h : AS N hs tx v1 G v3) {k24 : Int32 → Int32 → Int32 → Int32 → Int32 → Int32 → Int32 → Int32 → Option Int32} {w : Nat} (hw : w < nW N)
    (hk : Go (k24 (suN N 4 (w + 1)) (suN N 6 (w + 1)) (suN N 7 (w + 1)) (suN N 8 (w + 1) + suN N 9 (w + 1)) (suN N 10 (w + 1)) (suN N 11 (w + 1)) (suN N 5 (w + 1)) (nI (w + 1))) (fun r => r = 1)) : ∀ (t dp m : Nat), upN N dp w ≤ t → (∀ j, j < dp → 0 < upN N j w) →
    Go (f_L_addsUp_L93 v1 v2 G v3 k24 (m + t + 1) (suN N 4 w) (suN N 6 w) (suN N 7 w) (suN N 8 w + suN N 9 w) (suN N 10 w) (suN N 11 w) (suN N 5 w) (nI w) (bl N (nI w) (nW N)) (nI dp) (nI (upN N dp w))) (fun r => r = 1) := by
  have hb := h.1.b
  have fin : ∀ (dp m : Nat), upN N dp w = 0 → (∀ j, j < dp → 0 < upN N j w) → Go (f_L_addsUp_L93 v1 v2 G v3 k24 (m + 1) (suN N 4 w) (suN N 6 w) (suN N 7 w) (suN N 8 w + suN N 9 w) (suN N 10 w) (suN N 11 w) (suN N 5 w) (nI w) (bl N (nI w) (nW N)) (nI dp) (nI (upN N dp w))) (fun r => r = 1) := by
    intro dp m hz hp
    unfold f_L_addsUp_L93
    exact Go.t (by rw [hz]; decide) (au_155 h hw hp hz hk)
  intro t
  induction t with
  | zero =>
    intro dp m ht hp
    exact fin dp m (by omega) hp
  | succ t ih =>
    intro dp m ht hp
    rcases Nat.eq_zero_or_pos (upN N dp w) with c | c
    · exact fin dp (m + t + 1) c hp
    · have hlt := upN_lt h.1 hw dp hp
      have ha := abv_eq (h.1.2.1.2.2.2.2.1 (upN N dp w) (by omega)) c (by omega)
      have e0 : f_X3_wellOf v1 v2 G v3 (nI (upN N dp w)) 0 = some (nI (abv N (upN N dp w))) := by rw [wo_0 h (by omega) c, ha.1]
      have ea := above_val (v2 := v2) h hw hp
      rw [if_neg (by omega)] at ea
      have ea : f_X3_aboveAt v1 v2 G v3 (nI w) (nI dp) = some (nI (abv N (upN N dp w))) := ea
      unfold f_L_addsUp_L93
      refine Go.f (nI_nle c (by omega)) (Go.rd e0 (Go.f (nI_ge ha.2 (by omega)) (Go.rd ea (Go.rd e0 (Go.t rfl (Go.rd e0 ?_))))))
      rw [nI_1]
      exact ih (dp + 1) m (by show abv N (upN N dp w) ≤ t; omega) (fun j hj => by
        by_cases cj : j = dp
        · rw [cj]; exact c
        · exact hp j (by omega))
theorem au_48 (h : AS N hs tx v1 G v3) {k24 : Int32 → Int32 → Int32 → Int32 → Int32 → Int32 → Int32 → Int32 → Option Int32} {w : Nat} (hw : w < nW N)
    (hk : Go (k24 (suN N 4 (w + 1)) (suN N 6 (w + 1)) (suN N 7 (w + 1)) (suN N 8 (w + 1) + suN N 9 (w + 1)) (suN N 10 (w + 1)) (suN N 11 (w + 1)) (suN N 5 (w + 1)) (nI (w + 1))) (fun r => r = 1)) : ∀ (t i m : Nat), i + t = nW N → w < i →
    Go (f_L_addsUp_L48 v1 v2 G v3 k24 (m + t + 1) (suN N 4 w) (suN N 6 w) (suN N 7 w) (suN N 8 w + suN N 9 w) (suN N 10 w) (suN N 11 w) (suN N 5 w) (nI w) (bl N (nI w) i) (nI i)) (fun r => r = 1) := by
  have hb := h.1.b
  intro t
  induction t with
  | zero =>
    intro i m hi hwi
    have hi : i = nW N := by omega
    unfold f_L_addsUp_L48
    refine Go.rd (rc0 h) (Go.t (nI_le (by omega) (by omega)) ?_)
    obtain ⟨m2, hm⟩ := FUEL_ge (k := w + 1) (by omega)
    unfold f_L_addsUp_J86
    rw [hm, hi]
    exact au_93 h hw hk w 0 m2 (Nat.le_refl _) (fun j hj => absurd hj (by omega))
  | succ t ih =>
    intro i m hi hwi
    unfold f_L_addsUp_L48
    refine Go.rd (rc0 h) (Go.f (nI_ge (by omega) (by omega)) (Go.rd (wo_0 h (by omega) (by omega)) ?_))
    have nx := ih (i + 1) m (by omega) (by omega)
    rw [bl_split (n := 0)] at nx
    by_cases c : N (8 + 12 * i) = nI w
    · rw [if_pos c] at nx
      refine Go.t c ?_
      unfold f_L_addsUp_J77
      rw [nI_1]
      exact nx
    · rw [if_neg c] at nx
      refine Go.f c ?_
      unfold f_L_addsUp_J77
      rw [nI_1]
      exact nx
theorem au_24 (h : AS N hs tx v1 G v3) : ∀ (t i m : Nat), i + t = nW N → Go (f_L_addsUp_L24 v1 v2 G v3 (m + t + 1) (suN N 4 i) (suN N 6 i) (suN N 7 i) (suN N 8 i + suN N 9 i) (suN N 10 i) (suN N 11 i) (suN N 5 i) (nI i)) (fun r => r = 1) := by
  have hb := h.1.b
  intro t
  induction t with
  | zero =>
    intro i m hi
    have hi : i = nW N := by omega
    subst hi
    unfold f_L_addsUp_L24
    exact Go.rd (rc0 h) (Go.t (nI_le (Nat.le_refl _) (by omega)) (au_328 h rfl rfl rfl rfl rfl rfl rfl))
  | succ t ih =>
    intro i m hi
    unfold f_L_addsUp_L24
    refine Go.rd (rc0 h) (Go.f (nI_ge (by omega) (by omega)) ?_)
    obtain ⟨m2, hm⟩ := FUEL_ge (k := nW N - (i + 1) + 1) (by omega)
    have := au_48 (v2 := v2) h (k24 := f_L_addsUp_L24 v1 v2 G v3 (m + t + 1)) (w := i) (by omega) (ih (i + 1) m (by omega)) (nW N - (i + 1)) (i + 1) m2 (by omega) (by omega)
    rw [bl_low h.1 (by omega) (i + 1) (Nat.le_refl _)] at this
    rw [hm, nI_1]
    exact this
theorem addsUp_go (h : AS N hs tx v1 G v3) : Go (f_L_addsUp v1 v2 G v3) (fun r => r = 1) := by
  obtain ⟨m, hm⟩ := FUEL_ge (k := nW N + 1) (by have := h.1.b; omega)
  unfold f_L_addsUp
  rw [hm]
  exact au_24 h (nW N) 0 m (by omega)
end AU
