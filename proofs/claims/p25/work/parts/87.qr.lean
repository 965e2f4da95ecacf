/-! ===== the law's turns ===== -/
theorem low_go (x : Int32) {n : Nat} (h0 : 0 < n) (hn : n < 2 ^ 30) : ∃ v, v < n ∧ f_L_low x (nI n) = some (nI v) := by
  have hm : (x &&& 2147483647).toInt = x.toInt % 2 ^ 31 := Jvm.Kit.i32_mask x 2147483647 (k := 31) (by decide) (by decide)
  have hp : 0 ≤ (x &&& 2147483647).toInt := by rw [hm]; exact Int.emod_nonneg _ (by decide)
  have hr := fb_rng (x &&& 2147483647)
  have e := nI_ofInt (x := x &&& 2147483647) hp
  refine ⟨(x &&& 2147483647).toInt.toNat % n, Nat.mod_lt _ h0, ?_⟩
  have hmod := nI_mod (a := (x &&& 2147483647).toInt.toNat) (d := n) (by omega) h0 (by omega)
  rw [← e] at hmod
  unfold f_L_low
  rw [nz_of (nI_ne0 h0 (by omega)), ob_s, hmod]
/-- the law goes on: an object that is well, with times below a bound -/
def LB (T : Int) (v1 : FV) (G : Nat → FV) (v3 : FV) : Prop := ∃ N hs tx, AS N hs tx v1 G v3 ∧ (N 0).toInt ≤ T ∧ ∀ M ∈ hs, (M 0).toInt ≤ T
theorem LB.mono {T T' : Int} {v1 v3 : FV} {G : Nat → FV} (h : LB T v1 G v3) (hT : T ≤ T') : LB T' v1 G v3 := by
  obtain ⟨N, hs, tx, a, b, c⟩ := h
  exact ⟨N, hs, tx, a, by omega, fun M hM => by have := c M hM; omega⟩
theorem LB.of {T T' : Int} {N N' : NN} {hs : List NN} {tx : List Nat} {v1 v3 : FV} {G : Nat → FV} (h : AS N' ((N :: hs).take 4) tx v1 G v3) (hN : (N 0).toInt ≤ T) (hH : ∀ M ∈ hs, (M 0).toInt ≤ T) (hT : T ≤ T') (h' : (N' 0).toInt ≤ T') : LB T' v1 G v3 :=
  ⟨N', _, tx, h, h', fun M hM => by
    have hM := List.mem_of_mem_take hM
    rcases List.mem_cons.mp hM with e | hM
    · rw [e]; omega
    · have := hH M hM; omega⟩
section LT
variable {L : Nat} {xs : Nat → Int32} {k85 : Int32 → FV → FV → (Nat → FV) → FV → Option (Int32 × (FV × FV × (Nat → FV) × FV))} {v1 v2 v3 : FV} {G : Nat → FV} {T : Int} {t v w b : Nat}
abbrev Tr : Int32 × (FV × FV × (Nat → FV) × FV) → Prop := fun _ => True
/-- the checks behind a call -/
theorem lt_1232 (h : LB T v1 G v3) (hT : T + 301 ≤ 50000) (ht : t < 30) (hk : ∀ v1 v2 G v3, LB T v1 G v3 → Go (k85 (nI (t + 1)) v1 v2 G v3) Tr) : Go (f_L_law_J1232 L xs k85 (nI t) v1 v2 G v3) Tr := by
  obtain ⟨N, hs, tx, hA, hN, hH⟩ := id h
  unfold f_L_law_J1232
  by_cases c : (nI t - nI t / 9 * 9) = 4
  · refine Go.t c (Go.b2 (refused_go hA (by omega)) (fun x42 t42 q => ?_))
    obtain ⟨q1, q2⟩ := q
    have q1 : x42 = 1 := q1
    refine Go.f (by rw [q1]; decide) ?_
    rw [nI_1]
    exact hk _ _ _ _ ⟨N, hs, tx, q2, hN, hH⟩
  · refine Go.f c ?_
    rw [nI_1]
    exact hk _ _ _ _ h
theorem LB.rt {N : NN} {hs : List NN} {tx : List Nat} {x : Int32} {u : FV × FV × (Nat → FV) × FV} (q : RT N hs tx (x, u)) (hN : (N 0).toInt ≤ T) (hH : ∀ M ∈ hs, (M 0).toInt ≤ T) : x = 1 ∧ LB T u.1 u.2.2.1 u.2.2.2 := by
  obtain ⟨q1, k, q2⟩ := q
  exact ⟨q1, N, hs.take k, tx, q2, hN, fun M hM => hH M (List.mem_of_mem_take hM)⟩
theorem modn {a n : Nat} (ha : a < 8192) (h0 : 0 < n) (hn : n ≤ 8192) : nI a - nI a / nI n * nI n = nI (a % n) := nI_mod (by omega) h0 (by omega)
theorem lt_1199 {n : Nat} (h : ∃ N hs tx, AS N hs tx v1 G v3 ∧ nW N = n ∧ (N 0).toInt ≤ T ∧ ∀ M ∈ hs, (M 0).toInt ≤ T) (hT : T + 301 ≤ 50000) (ht : t < 30) (hv : v < 8192) (hw : w < 8192) (hb : 1 ≤ b ∧ b ≤ 90) (hk : ∀ v1 v2 G v3, LB T v1 G v3 → Go (k85 (nI (t + 1)) v1 v2 G v3) Tr) : Go (f_L_law_J1199 L xs k85 (nI t) (nI v) (nI w) (nI b) (nI n) v1 v2 G v3) Tr := by
  obtain ⟨N, hs, tx, hA, rfl, hN, hH⟩ := h
  have hbd := hA.1.b
  have hL : LB T v1 G v3 := ⟨N, hs, tx, hA, hN, hH⟩
  unfold f_L_law_J1199
  rcases Nat.eq_zero_or_pos (nW N) with c | c
  · exact Go.t (by rw [c]; rfl) (lt_1232 hL hT ht hk)
  · have hne : ¬ nI (nW N) = 0 := nI_ne0 c (by omega)
    refine Go.f hne ?_
    by_cases c5 : (nI t - nI t / 5 * 5) = 2
    · refine Go.t c5 (Go.rd (nz_of hne) ?_)
      have e2 : (1 : Int32) + (nI w - nI w / 60 * 60) = nI (1 + w % 60) := by
        have := modn (a := w) (n := 60) hw (by omega) (by omega)
        rw [show (60 : Int32) = nI 60 from rfl, this, show (1 : Int32) = nI 1 from rfl, nI_add]
      rw [modn hv c (by omega), e2]
      have hb' : (nI b).toInt = b := nI_toInt (by omega)
      have hm := Nat.mod_lt w (show 60 > 0 by omega)
      refine Go.b2 (isAhead_go hA (Nat.mod_lt v c) (t := 1 + w % 60) (by omega) (by omega) (b := nI b) (by omega) (by omega) (by omega)) (fun x46 t46 q => ?_)
      obtain ⟨q1, q2⟩ := LB.rt q hN hH
      exact Go.f (by rw [q1]; decide) (lt_1232 q2 hT ht hk)
    · exact Go.f c5 (lt_1232 hL hT ht hk)
theorem lt_1143 {y12 : Int32} (h : LB T v1 G v3) (hy : -3 ≤ y12.toInt) (hT : T + 301 ≤ 50000) (ht : t < 30) (hv : v < 8192) (hw : w < 8192) (hb : 1 ≤ b ∧ b ≤ 90) (hk : ∀ v1 v2 G v3, LB T v1 G v3 → Go (k85 (nI (t + 1)) v1 v2 G v3) Tr) : Go (f_L_law_J1143 L xs k85 (nI t) (nI v) (nI w) (nI b) y12 v1 v2 G v3) Tr := by
  obtain ⟨N, hs, tx, hA, hN, hH⟩ := h
  have hbd := hA.1.b
  unfold f_L_law_J1143
  refine Go.rd (rc0 hA) (Go.f (by rw [i_lt, show (-3 : Int32).toInt = -3 from rfl]; omega) (Go.bind (addsUp_go hA) (fun x37 q37 => ?_)))
  refine Go.f (by rw [q37]; decide) ?_
  rcases Nat.eq_zero_or_pos (nW N) with c | c
  · exact Go.t (by rw [c]; rfl) (lt_1199 ⟨N, hs, tx, hA, rfl, hN, hH⟩ hT ht hv hw hb hk)
  · have hne : ¬ nI (nW N) = 0 := nI_ne0 c (by omega)
    refine Go.f hne ?_
    by_cases c3 : (nI t - nI t / 3 * 3) = 1
    · refine Go.t c3 (Go.rd (nz_of hne) ?_)
      have e2 : (1 : Int32) + (nI v - nI v / 60 * 60) = nI (1 + v % 60) := by
        have := modn (a := v) (n := 60) hv (by omega) (by omega)
        rw [show (60 : Int32) = nI 60 from rfl, this, show (1 : Int32) = nI 1 from rfl, nI_add]
      rw [modn hw c (by omega), e2]
      have hm := Nat.mod_lt v (show 60 > 0 by omega)
      have hb' : (nI (1 + v % 60)).toInt = (1 + v % 60 : Nat) := nI_toInt (by omega)
      refine Go.b2 (isDrawn_go hA (Nat.mod_lt w c) (b := nI (1 + v % 60)) (by omega) (by omega) (by omega)) (fun x50 t50 q => ?_)
      obtain ⟨q1, k, q2⟩ := q
      have q1 : x50 = 1 := q1
      refine Go.f (by rw [q1]; decide) (lt_1199 ⟨N, hs.take k, tx, q2, rfl, hN, fun M hM => hH M (List.mem_of_mem_take hM)⟩ hT ht hv hw hb hk)
    · exact Go.f c3 (lt_1199 ⟨N, hs, tx, hA, rfl, hN, hH⟩ hT ht hv hw hb hk)
end LT
