/-! ===== the law's loop, and its beginning ===== -/
section LL
variable {L : Nat} {xs : Nat → Int32} {k85 : Int32 → FV → FV → (Nat → FV) → FV → Option (Int32 × (FV × FV × (Nat → FV) × FV))} {N : NN} {hs : List NN} {tx : List Nat} {v1 v2 v3 : FV} {G : Nat → FV} {T : Int} {t v w b : Nat}
theorem lc_199 (h : AS N hs tx v1 G v3) (H : HD T t v w b N hs) (hk : NX' T t k85) {y8 z : Int32} (k8 : 0 < nW N → ∃ a, a < nW N ∧ y8 = nI a) (hz : nW N = 0 → z = 0) : Go (f_L_law_J199 L xs k85 (nI t) (nI (nW N)) (nI v) (nI w) y8 (nI b) (nI (nQ N)) (suN N 8 (nW N) + suN N 9 (nW N)) z v1 v2 G v3) Tr := by
  unfold f_L_law_J199
  by_cases c0 : z = 0
  · exact Go.t c0 (lc_276 h H hk k8)
  refine Go.f c0 ?_
  have hn : 0 < nW N := Nat.pos_of_ne_zero (fun e => c0 (hz e))
  obtain ⟨a, ha, rfl⟩ := k8 hn
  by_cases c1 : z = 1
  · exact Go.t c1 (lc_276 h H hk (fun _ => ⟨a, ha, rfl⟩))
  refine Go.f c1 ?_
  by_cases c2 : z = 2
  · exact Go.t c2 (lc_343 h H hk ha)
  refine Go.f c2 ?_
  by_cases c3 : z = 3
  · exact Go.t c3 (lc_418 h H hk ha)
  refine Go.f c3 ?_
  by_cases c4 : z = 4
  · exact Go.t c4 (lc_418 h H hk ha)
  refine Go.f c4 ?_
  by_cases c5 : z = 5
  · exact Go.t c5 (lc_486 h H hk ha)
  refine Go.f c5 ?_
  by_cases c6 : z = 6
  · exact Go.t c6 (lc_486 h H hk ha)
  refine Go.f c6 ?_
  by_cases c7 : z = 7
  · exact Go.t c7 (lc_486 h H hk ha)
  refine Go.f c7 ?_
  by_cases c8 : z = 8
  · exact Go.t c8 (lc_610 h H hk)
  refine Go.f c8 ?_
  by_cases c9 : z = 9
  · exact Go.t c9 (lc_672 h H hk)
  refine Go.f c9 ?_
  by_cases c10 : z = 10
  · exact Go.t c10 (lc_672 h H hk)
  refine Go.f c10 ?_
  by_cases c11 : z = 11
  · exact Go.t c11 (lc_672 h H hk)
  refine Go.f c11 ?_
  by_cases c12 : z = 12
  · exact Go.t c12 (lc_672 h H hk)
  refine Go.f c12 ?_
  by_cases c13 : z = 13
  · exact Go.t c13 (lc_672 h H hk)
  refine Go.f c13 ?_
  by_cases c14 : z = 14
  · exact Go.t c14 (lc_783 h H hk)
  refine Go.f c14 ?_
  by_cases c15 : z = 15
  · exact Go.t c15 (lc_817 h H hk hn)
  exact Go.f c15 (lc_1101 h H hk)
theorem lc_148 (h : AS N hs tx v1 G v3) (hN : (N 0).toInt ≤ T) (hH : ∀ M ∈ hs, (M 0).toInt ≤ T) (hT : T + 400 ≤ 50000) (ht : t < 30) (hv : v < 8192) (hw : w < 8192) (hk : NX' T t k85) {y4 y8 : Int32} (k8 : 0 < nW N → ∃ a, a < nW N ∧ y8 = nI a) : Go (f_L_law_J148 L xs k85 (nI t) y4 (nI (nW N)) (nI v) (nI w) y8 v1 v2 G v3) Tr := by
  have hbd := h.1.b
  have l1 := Nat.mod_lt w (show 90 > 0 by omega)
  have m1 := modn (a := w) (n := 90) hw (by omega) (by omega)
  have eb : (1 : Int32) + (nI w - nI w / 90 * 90) = nI (1 + w % 90) := by
    rw [show (90 : Int32) = nI 90 from rfl, m1, show (1 : Int32) = nI 1 from rfl, nI_add]
  have H : HD T t v w (1 + w % 90) N hs := ⟨hN, hH, hT, ht, hv, hw, by omega, by omega⟩
  unfold f_L_law_J148
  refine Go.rd (rc10 h) (Go.rd (rc6 h) ?_)
  rw [eb]
  by_cases c : nI t < (3 : Int32)
  · exact Go.t c (lc_199 h H hk k8 (fun _ => rfl))
  · refine Go.f c ?_
    by_cases cn : nI (nW N) = 0
    · exact Go.t cn (lc_199 h H hk k8 (fun _ => rfl))
    · refine Go.f cn ?_
      obtain ⟨u, hu, e⟩ := low_go y4 (n := 18) (by omega) (by omega)
      exact Go.rd e (lc_199 h H hk k8 (fun q => absurd (by rw [q]; rfl) cn))
theorem cell_go (L : Nat) (hL : L ≤ 260) (xs : Nat → Int32) {i : Nat} (hi : i < 30) : ∃ x, f_L_cell L xs (nI i) = some x := by
  unfold f_L_cell
  by_cases c : nI L ≤ nI i
  · exact ⟨_, if_pos c⟩
  · rw [if_neg c]
    rw [i_le, nI_toInt (by omega), nI_toInt (by omega)] at c
    exact ⟨_, rd_nI (by omega) (by omega)⟩
theorem law_turns (hL : L ≤ 260) : ∀ (t i m : Nat) (v1 v2 : FV) (G : Nat → FV) (v3 : FV), i + t = 30 → LB (50 * (i : Int)) v1 G v3 → Go (f_L_law_L85 L xs (m + t + 1) (nI i) v1 v2 G v3) Tr := by
  intro t
  induction t with
  | zero =>
    intro i m v1 v2 G v3 hi h
    have hi : i = 30 := by omega
    subst hi
    obtain ⟨N, hs, tx, hA, hN, -⟩ := h
    unfold f_L_law_L85
    refine Go.t (show (30 : Int32) ≤ nI 30 by decide) ?_
    unfold f_L_law_J1259
    refine Go.bind (addsUp_go hA) (fun x q => Go.f (by rw [q]; decide) (Go.b2 (refused_go hA (by omega)) (fun x20 t20 q2 => ?_)))
    obtain ⟨q1, -⟩ := q2
    have q1 : x20 = 1 := q1
    exact Go.f (by rw [q1]; decide) (Go.ret trivial)
  | succ t ih =>
    intro i m v1 v2 G v3 hi h
    obtain ⟨N, hs, tx, hA, hN, hH⟩ := h
    have hbd := hA.1.b
    obtain ⟨x, ex⟩ := cell_go L hL xs (i := i) (by omega)
    have hk : NX' (50 * (i : Int)) i (f_L_law_L85 L xs (m + t + 1)) := fun v1 v2 G v3 hl => ih (i + 1) m v1 v2 G v3 (by omega) (by
      rw [show 50 * ((i + 1 : Nat) : Int) = 50 * (i : Int) + 50 by omega]
      exact hl)
    obtain ⟨v, hv, ev⟩ := low_go (x >>> (4 &&& 31)) (n := 8192) (by omega) (by omega)
    obtain ⟨w, hw, ew⟩ := low_go (x >>> (12 &&& 31)) (n := 8192) (by omega) (by omega)
    unfold f_L_law_L85
    refine Go.f (show ¬ (30 : Int32) ≤ nI i from nI_ge (b := 30) (by omega) (by omega)) (Go.rd ex (Go.rd (rc0 hA) (Go.rd ev (Go.rd ew ?_))))
    rcases Nat.eq_zero_or_pos (nW N) with c | c
    · exact Go.t (by rw [c]; rfl) (lc_148 hA hN hH (by omega) (by omega) hv hw hk (fun q => absurd q (by omega)))
    · have hne : ¬ nI (nW N) = 0 := nI_ne0 c (by omega)
      refine Go.f hne (Go.rd (nz_of hne) ?_)
      rw [modn hv c (by omega)]
      exact lc_148 hA hN hH (by omega) (by omega) hv hw hk (fun _ => ⟨v % nW N, Nat.mod_lt v c, rfl⟩)
end LL
theorem K2_0 : K2 V0 (V0M 1) := by
  refine K2.of (n := 0) (d := 0) (q := 0) ⟨⟨rfl, rfl, rfl, rfl, rfl, rfl, rfl, rfl, rfl, rfl⟩, ?_, ?_, ?_, ?_, ?_⟩ ⟨⟨by omega, ?_, ?_, Or.inl rfl, ?_, ?_, ?_, ?_, rfl⟩, ?_, ⟨rfl, rfl⟩, ⟨fun i hi => absurd hi (by omega), fun i hi => absurd hi (by omega)⟩⟩
  · intro w r hw; exact absurd hw (by omega)
  · intro w hw; exact absurd hw (by omega)
  · intro w r h1 h2 h3 h4
    unfold V0
    rw [st_ne (by omega)]
  · intro i k hi; exact absurd hi (by omega)
  · intro i k hi; exact absurd hi (by omega)
  · decide
  · decide
  · intro w hw; exact absurd hw (by omega)
  · intro w hw; exact absurd hw (by omega)
  · intro w hw; exact absurd hw (by omega)
  · intro w hw; exact absurd hw (by omega)
  · intro w hw; exact absurd hw (by omega)
theorem AS_0 : AS (V0M 1) [] [] V0 G0 (fun _ _ => 0) := ⟨K2_0, ⟨0, ⟨by omega, by simp⟩, rfl, rfl, fun i hi => absurd hi (by simp)⟩, ⟨by simp, rfl, fun i hi => absurd hi (by simp)⟩⟩
theorem lenders_0 {N : NN} {hs : List NN} {tx : List Nat} {v1 v2 v3 : FV} {G : Nat → FV} (h : AS N hs tx v1 G v3) (hn : nW N = 0) : Go (f_X3_lenders v1 v2 G v3) (fun t => t.1 = 0 ∧ AS N hs tx t.2.1 t.2.2.2.1 t.2.2.2.2) := by
  obtain ⟨X, e1, e2⟩ := copyFrom_eq v2 v1
  obtain ⟨m, hm⟩ := FUEL_ge (k := 1) (by omega)
  have e0 : X 0 0 = 0 := by
    have := (h.1.congrV e2).1.1.1
    rw [hn] at this
    exact this
  have hl : f_X0_lendAtNoon X = some (0, X) := by
    unfold f_X0_lendAtNoon
    rw [hm, e0]
    unfold f_X0_lendAtNoon_L9
    rw [if_pos (by decide)]
  unfold f_X3_lenders
  rw [e1, ob_s, hl, b2_mk]
  exact Go.ret ⟨rfl, h⟩
theorem law_go (L : Nat) (hL : L ≤ 260) (xs : Nat → Int32) : ∃ (r : Int32) (w1 w2 : FV) (F : Nat → FV) (w3 : FV), f_L_law L xs V0 V0 G0 (fun _ _ => 0) = some (r, (w1, w2, F, w3)) := by
  have key : Go (f_L_law L xs V0 V0 G0 (fun _ _ => 0)) Tr := by
    have e3 : nW (V0M 1) = 0 := rfl
    have t0 : ((V0M 1) 0).toInt = 0 := rfl
    unfold f_L_law
    refine ck (undo_0 AS_0) (fun t1 h1 => ?_)
    have c20 : f_X3_count t1.1 t1.2.1 t1.2.2.1 t1.2.2.2 20 = some 24 := rc20 h1
    have c12 : f_X3_count t1.1 t1.2.1 t1.2.2.1 t1.2.2.2 12 = some 24 := by rw [rc12 h1]; decide
    refine rk c20 (rk c12 ?_)
    refine Go.b2 (fault_of h1 (p := 0) (Or.inl rfl) (P := fun x => x = -4) (fun U hU => ?_)) (fun x7 t7 q => ?_)
    · obtain ⟨w, r1, r2, r3, r4, -⟩ := run_nil (U := U) h1.2.2
      exact ⟨U, w, r1, r2, r3, if_pos r4⟩
    · obtain ⟨hx7, h7⟩ := q
      have hx7 : x7 = -4 := hx7
      have h7 : AS (V0M 1) [] [] t7.1 t7.2.2.1 t7.2.2.2 := h7
      refine Go.t hx7 (Go.b2 (play_ok h7 (r := 0) (M := V0M 1) (by decide) (fun U hU => ?_)) (fun x9 t9 q => ?_))
      · obtain ⟨w, r1, r2, r3, r4, r5⟩ := run_nil (U := U) h7.2.2
        exact ⟨U, w, r1, r2, r3, r4, r5, hU⟩
      · obtain ⟨hx9, h9⟩ := q
        have hx9 : x9 = 0 := hx9
        have h9 : AS (V0M 1) [V0M 1] [] t9.1 t9.2.2.1 t9.2.2.2 := h9
        refine Go.t hx9 (Go.b2 (undo_s h9) (fun x11 t11 q => ?_))
        obtain ⟨hx11, h11⟩ := q
        have hx11 : x11 = 0 := hx11
        have h11 : AS (V0M 1) [] [] t11.1 t11.2.2.1 t11.2.2.2 := h11
        refine Go.t hx11 (ck (lenders_0 h11 e3) (fun t13 h13 => ?_))
        refine Go.b2 (refused_go h13 (by rw [t0]; omega)) (fun x15 t15 q => ?_)
        obtain ⟨q1, q2⟩ := q
        have q1 : x15 = 1 := q1
        refine Go.f (by rw [q1]; decide) ?_
        obtain ⟨m, hm⟩ := FUEL_ge (k := 31) (by omega)
        rw [hm]
        exact law_turns hL 30 0 m _ _ _ _ (by omega) ⟨V0M 1, [], [], q2, by rw [t0]; omega, fun M hM => absurd hM List.not_mem_nil⟩
  obtain ⟨z, e, -⟩ := key
  exact ⟨z.1, z.2.1, z.2.2.1, z.2.2.2.1, z.2.2.2.2, e⟩
