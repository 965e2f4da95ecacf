/-! ===== copies ===== -/
def rl (i j : Nat) : Prop := (i = 0 ∧ j < 5) ∨ (i = 4 ∧ j < 2) ∨ (6 ≤ i ∧ i < 19 ∧ j < 12) ∨ (19 ≤ i ∧ i < 22 ∧ j < 20) ∨ (22 ≤ i ∧ i < 25 ∧ j < 8)
theorem Rel.congrV {n d q : Nat} {V V' : FV} {N : Nat → Int32} (h : Rel n d q V N) (hn : n ≤ 12) (hd : d ≤ 20) (hq : q ≤ 8) (e : ∀ i j, rl i j → V' i j = V i j) : Rel n d q V' N := by
  obtain ⟨⟨a1, a2, a3, a4, a5, a6, a7, a8, a9, a10⟩, hb, hc, he, hf, hg⟩ := h
  refine ⟨⟨?_, a2, ?_, a4, ?_, a6, ?_, ?_, ?_, ?_⟩, ?_, ?_, ?_, ?_, ?_⟩
  · rw [e _ _ (by unfold rl; omega)]; exact a1
  · rw [e _ _ (by unfold rl; omega)]; exact a3
  · rw [e _ _ (by unfold rl; omega)]; exact a5
  · rw [e _ _ (by unfold rl; omega)]; exact a7
  · rw [e _ _ (by unfold rl; omega)]; exact a8
  · rw [e _ _ (by unfold rl; omega)]; exact a9
  · rw [e _ _ (by unfold rl; omega)]; exact a10
  · intro w r hw hr; rw [e _ _ (by unfold rl; omega)]; exact hb w r hw hr
  · intro w hw; rw [e _ _ (by unfold rl; omega)]; exact hc w hw
  · intro w r x1 x2 x3 x4; rw [e _ _ (by unfold rl; omega)]; exact he w r x1 x2 x3 x4
  · intro i r hi hr; rw [e _ _ (by unfold rl; omega)]; exact hf i r hi hr
  · intro i r hi hr; rw [e _ _ (by unfold rl; omega)]; exact hg i r hi hr
theorem Wf.congr {n d q : Nat} {T : Int} {N M : Nat → Int32} (h : Wf n d q T N) (e : ∀ j, j < 236 → M j = N j) : Wf n d q T M := by
  obtain ⟨hbd, h0, h1, h2, hW, hD, hQ, hQ2, h6⟩ := h
  refine ⟨hbd, by rw [e _ (by omega)]; exact h0, by rw [e _ (by omega)]; exact h1, by rw [e _ (by omega)]; exact h2, ?_, ?_, ?_, ?_, ?_⟩
  · intro w hw; exact (hW w hw).congr (fun r hr => e _ (by omega))
  · intro i hi; rw [e _ (by omega)]; exact hD i hi
  · intro i hi; rw [e _ (by omega)]; exact hQ i hi
  · intro i hi; rw [e _ (by omega)]; exact hQ2 i hi
  · rw [e _ (by omega), h6]; exact (ds_congr n (fun g r hg hr => e _ (by omega))).symm
def K (v : FV) (N : Nat → Int32) : Prop := ∃ n d q, Ok n d q 50000 v N ∧ Cl n (1000 * (N 0).toInt) N
theorem K.congr {v v' : FV} {N M : Nat → Int32} (h : K v N) (eV : ∀ i j, rl i j → v' i j = v i j) (e : ∀ j, j < 236 → M j = N j) : K v' M := by
  obtain ⟨n, d, q, hO, hC⟩ := h
  have hb := hO.2.1
  refine ⟨n, d, q, ⟨(hO.1.congrV hb.1 hb.2.1 hb.2.2 eV).congr hb.1 hb.2.1 hb.2.2 (fun j hj _ => e j hj), hO.2.congr e⟩, ?_⟩
  rw [e 0 (by omega)]
  exact hC.far (fun w hw => e _ (by omega))
theorem copyFrom_eq (X V : FV) : ∃ X', f_X0_copyFrom X V = some X' ∧ ∀ i j, rl i j → X' i j = V i j := by
  refine ⟨_, rfl, ?_⟩
  intro i j h
  rcases h with ⟨rfl, h⟩ | ⟨rfl, h⟩ | ⟨h1, h2, h3⟩ | ⟨h1, h2, h3⟩ | ⟨h1, h2, h3⟩
  · rcases (show j = 0 ∨ j = 1 ∨ j = 2 ∨ j = 3 ∨ j = 4 by omega) with rfl | rfl | rfl | rfl | rfl <;> rfl
  · rcases (show j = 0 ∨ j = 1 by omega) with rfl | rfl <;> rfl
  · rw [st_ne (by omega), st_ne (by omega), st_ne (by omega), st_ne (by omega), st_ne (by omega), st_ne (by omega), st_ne (by omega)]
    unfold cpR cpF
    rw [if_neg (by omega), if_neg (by omega), if_pos (by omega), if_pos h3]
  · rw [st_ne (by omega), st_ne (by omega), st_ne (by omega), st_ne (by omega), st_ne (by omega), st_ne (by omega), st_ne (by omega)]
    unfold cpR cpF
    rw [if_neg (by omega), if_pos (by omega), if_pos h3]
  · rw [st_ne (by omega), st_ne (by omega), st_ne (by omega), st_ne (by omega), st_ne (by omega), st_ne (by omega), st_ne (by omega)]
    unfold cpR cpF
    rw [if_pos (by omega), if_pos h3]
theorem cpF_0 {u w : Nat → Int32} : cpF 0 u w = w := by funext j; exact if_neg (Nat.not_lt_zero j)
theorem cpF_s {u w : Nat → Int32} {i : Nat} : upd (cpF i u w) i (u i) = cpF (i + 1) u w := by
  funext j
  rw [upd_at]
  unfold cpF
  by_cases c : j = i
  · rw [if_pos c, if_pos (by omega), c]
  · rw [if_neg c]
    by_cases c2 : j < i
    · rw [if_pos c2, if_pos (by omega)]
    · rw [if_neg c2, if_neg (by omega)]
theorem cpF_lt {u w : Nat → Int32} {k j : Nat} (h : j < k) : cpF k u w j = u j := if_pos h
def sB (V : FV) (M : Nat → Int32) : FV := fun a => if a = 2 then M else V a
def sC (V : FV) (M : Nat → Int32) : FV := fun a => if a = 3 then M else V a
theorem st_sB {V : FV} {M : Nat → Int32} {j : Nat} {x : Int32} : st (sB V M) 2 j x = sB V (upd M j x) := by
  funext a b
  rw [st_at]
  unfold sB
  by_cases c : a = 2
  · subst c
    rw [if_pos rfl, if_pos rfl, upd_at]
    by_cases c2 : b = j
    · rw [if_pos ⟨rfl, c2⟩, if_pos c2]
    · rw [if_neg (fun h => c2 h.2), if_neg c2]
  · rw [if_neg (fun h => c h.1), if_neg c, if_neg c]
theorem st_sC {V : FV} {M : Nat → Int32} {j : Nat} {x : Int32} : st (sC V M) 3 j x = sC V (upd M j x) := by
  funext a b
  rw [st_at]
  unfold sC
  by_cases c : a = 3
  · subst c
    rw [if_pos rfl, if_pos rfl, upd_at]
    by_cases c2 : b = j
    · rw [if_pos ⟨rfl, c2⟩, if_pos c2]
    · rw [if_neg (fun h => c2 h.2), if_neg c2]
  · rw [if_neg (fun h => c h.1), if_neg c, if_neg c]
theorem sB_self {V : FV} : sB V (V 2) = V := by
  funext a
  unfold sB
  by_cases h : a = 2
  · rw [if_pos h, h]
  · rw [if_neg h]
theorem sC_self {V : FV} : sC V (V 3) = V := by
  funext a
  unfold sC
  by_cases h : a = 3
  · rw [if_pos h, h]
  · rw [if_neg h]
theorem copy_loop {V : FV} : ∀ (t i m : Nat), i + t = 236 → f_X4_copy_L2 (m + t + 1) (nI i) (sB V (cpF i (V 1) (V 2))) = some (sB V (cpF 236 (V 1) (V 2))) := by
  intro t
  induction t with
  | zero =>
    intro i m h
    have hi : i = 236 := by omega
    subst hi
    rfl
  | succ t ih =>
    intro i m h
    show (if 236 ≤ nI i then _ else ((rd 236 (V 1) (nI i)).bind fun x2 => ((wr 236 (sB V (cpF i (V 1) (V 2))) 2 (nI i) x2).bind fun V3 => (f_X4_copy_L2 (m + t + 1) (nI i + 1) V3)))) = _
    rw [show (236 : Int32) = nI 236 from rfl, if_neg (nI_ge (by omega) (by omega)), rd_nI (by omega) (by omega), ob_s, wr_nI (by omega) (by omega), ob_s, st_sB, cpF_s, nI_1]
    exact ih (i + 1) m (by omega)
theorem copy_eq {V : FV} : f_X4_copy V = some (sB V (cpF 236 (V 1) (V 2))) := by
  obtain ⟨m, hm⟩ := FUEL_ge (k := 237) (by omega)
  unfold f_X4_copy
  rw [hm]
  have h := copy_loop (V := V) 236 0 m (by omega)
  rw [cpF_0, sB_self] at h
  exact h
theorem back_loop {V : FV} : ∀ (t i m : Nat), i + t = 236 → f_X4_back_L2 (m + t + 1) (nI i) (sM V (cpF i (V 2) (V 1))) = some (sM V (cpF 236 (V 2) (V 1))) := by
  intro t
  induction t with
  | zero =>
    intro i m h
    have hi : i = 236 := by omega
    subst hi
    rfl
  | succ t ih =>
    intro i m h
    show (if 236 ≤ nI i then _ else ((rd 236 (V 2) (nI i)).bind fun x2 => ((wr 236 (sM V (cpF i (V 2) (V 1))) 1 (nI i) x2).bind fun V3 => (f_X4_back_L2 (m + t + 1) (nI i + 1) V3)))) = _
    rw [show (236 : Int32) = nI 236 from rfl, if_neg (nI_ge (by omega) (by omega)), rd_nI (by omega) (by omega), ob_s, wr_nI (by omega) (by omega), ob_s, st_sM2, cpF_s, nI_1]
    exact ih (i + 1) m (by omega)
theorem back_eq {V : FV} : f_X4_back V = some (sM V (cpF 236 (V 2) (V 1))) := by
  obtain ⟨m, hm⟩ := FUEL_ge (k := 237) (by omega)
  unfold f_X4_back
  rw [hm]
  have h := back_loop (V := V) 236 0 m (by omega)
  rw [cpF_0, sM_self] at h
  exact h
/-! the reference's row of states -/
def bk3 (V : FV) (a k : Nat) : Nat → Int32 := fun x => if 236 * a ≤ x ∧ x < 236 * a + k then V 2 (x - 236 * a) else V 3 x
theorem bk3_0 {V : FV} {a : Nat} : bk3 V a 0 = V 3 := by funext x; exact if_neg (by omega)
theorem bk3_s {V : FV} {a i : Nat} : upd (bk3 V a i) (236 * a + i) (V 2 i) = bk3 V a (i + 1) := by
  funext j
  rw [upd_at]
  unfold bk3
  by_cases c : j = 236 * a + i
  · rw [if_pos c, if_pos (by omega), c, Nat.add_sub_cancel_left]
  · rw [if_neg c]
    by_cases c2 : 236 * a ≤ j ∧ j < 236 * a + i
    · rw [if_pos c2, if_pos (by omega)]
    · rw [if_neg c2, if_neg (by omega)]
theorem ix_b (a i : Nat) : (236 : Int32) * nI a + nI i = nI (236 * a + i) := by
  rw [show (236 : Int32) = nI 236 from rfl, pk_mul, nI_add]
theorem md4 : ∀ a, a < 10 → nI a - nI a / 4 * 4 = nI (a % 4) := by decide +kernel
theorem md5 : ∀ a, a < 10 → nI a - nI a / 5 * 5 = nI (a % 5) := by decide +kernel
/-- the reference's fields after a state is recorded -/
def rcE (V : FV) (a s : Nat) : FV := st (st (sC V (bk3 V a 236)) 0 1 (nI ((a + 1) % 4))) 0 0 (nI (if 4 ≤ s then 4 else s + 1))
theorem rec_loop {V : FV} {a s : Nat} (ha : a < 4) (hs : s ≤ 4) (e1 : V 0 1 = nI a) (e0 : V 0 0 = nI s) {r : Int32} : ∀ (t i m : Nat), i + t = 236 → f_X4_recorded_L6 (m + t + 1) r (nI i) (sC V (bk3 V a i)) = some (r, rcE V a s) := by
  intro t
  induction t with
  | zero =>
    intro i m h
    have hi : i = 236 := by omega
    subst hi
    show (lt1 (st (sC V (bk3 V a 236)) 0 1 (((V 0 1) + 1) - ((V 0 1) + 1) / 4 * 4)) fun V3 => (if 4 ≤ (V3 0 0) then (lt1 (st V3 0 0 4) fun V5 => some (r, V5)) else (lt1 (st V3 0 0 ((V3 0 0) + 1)) fun V6 => some (r, V6)))) = _
    rw [e1, nI_1, md4 (a + 1) (by omega), lt1_mk, st_ne (i := 0) (j := 1) (a := 0) (b := 0) (by omega), show sC V (bk3 V a 236) 0 0 = nI s from e0]
    unfold rcE
    by_cases c : 4 ≤ s
    · rw [if_pos c, if_pos (show (4 : Int32) ≤ nI s from nI_le (a := 4) c (by omega)), lt1_mk]
      rfl
    · rw [if_neg c, if_neg (show ¬ (4 : Int32) ≤ nI s from nI_ge (b := 4) (by omega) (by omega)), lt1_mk, nI_1]
  | succ t ih =>
    intro i m h
    show (if 236 ≤ nI i then _ else ((rd 236 (V 2) (nI i)).bind fun x7 => ((wr 944 (sC V (bk3 V a i)) 3 ((236 * (V 0 1)) + nI i) x7).bind fun V8 => (f_X4_recorded_L6 (m + t + 1) r (nI i + 1) V8)))) = _
    rw [show (236 : Int32) = nI 236 from rfl, if_neg (nI_ge (by omega) (by omega)), rd_nI (by omega) (by omega), ob_s, e1, show nI 236 * nI a = nI (236 * a) from pk_mul 236 a, nI_add, wr_nI (by omega) (by omega), ob_s, st_sC, bk3_s, nI_1]
    exact ih (i + 1) m (by omega)
theorem rec_eq {V : FV} {a s : Nat} (ha : a < 4) (hs : s ≤ 4) (e1 : V 0 1 = nI a) (e0 : V 0 0 = nI s) {r : Int32} (hr : ¬ r < 0) : f_X4_recorded V r = some (r, rcE V a s) := by
  obtain ⟨m, hm⟩ := FUEL_ge (k := 237) (by omega)
  unfold f_X4_recorded
  rw [if_neg hr, hm]
  have h := rec_loop (r := r) ha hs e1 e0 236 0 m (by omega)
  rw [bk3_0, sC_self] at h
  exact h
theorem undo_loop {V : FV} {a : Nat} (ha : a < 4) (e1 : V 0 1 = nI a) : ∀ (t i m : Nat), i + t = 236 → f_X4_undo_L36 (m + t + 1) (nI i) (sM V (cpF i (fun j => V 3 (236 * a + j)) (V 1))) = some (V 0 0, sM V (cpF 236 (fun j => V 3 (236 * a + j)) (V 1))) := by
  intro t
  induction t with
  | zero =>
    intro i m h
    have hi : i = 236 := by omega
    subst hi
    rfl
  | succ t ih =>
    intro i m h
    show (if 236 ≤ nI i then _ else ((rd 944 (V 3) ((236 * (V 0 1)) + nI i)).bind fun x5 => ((wr 236 (sM V (cpF i (fun j => V 3 (236 * a + j)) (V 1))) 1 (nI i) x5).bind fun V6 => (f_X4_undo_L36 (m + t + 1) (nI i + 1) V6)))) = _
    have hs := cpF_s (u := fun j => V 3 (236 * a + j)) (w := V 1) (i := i)
    rw [show (236 : Int32) = nI 236 from rfl, if_neg (nI_ge (by omega) (by omega)), e1, show nI 236 * nI a = nI (236 * a) from pk_mul 236 a, nI_add, rd_nI (by omega) (by omega), ob_s, wr_nI (by omega) (by omega), ob_s, st_sM2, hs, nI_1]
    exact ih (i + 1) m (by omega)
/-! the two histories -/
def HsP (o s a : Nat) (G : Nat → FV) (V : FV) : Prop := (o < 5 ∧ s ≤ 4 ∧ a < 4) ∧ G 0 0 0 = nI o ∧ G 0 0 1 = nI s ∧ V 0 0 = nI s ∧ V 0 1 = nI a ∧ ∀ i, i < s → K (G ((o + i) % 5 + 1)) (fun j => V 3 (236 * ((a + 4 - s + i) % 4) + j))
theorem HsP.congr {o s a : Nat} {G : Nat → FV} {V V' : FV} (h : HsP o s a G V) (e0 : V' 0 0 = V 0 0) (e1 : V' 0 1 = V 0 1) (e3 : V' 3 = V 3) : HsP o s a G V' := by
  obtain ⟨hb, g0, g1, h0, h1, hk⟩ := h
  refine ⟨hb, g0, g1, by rw [e0]; exact h0, by rw [e1]; exact h1, ?_⟩
  rw [e3]
  exact hk
theorem va_up_at {G : Nat → FV} {k i : Nat} {X : FV} : va_up G k X i = if i = k then X else G i := rfl
theorem note_eq {o s a : Nat} {G : Nat → FV} {V v : FV} {N : Nat → Int32} (hH : HsP o s a G V) (hK : K v N) : ∃ G', f_X1_note G v = some (G', v) ∧ HsP o s a G' V ∧ K (G' ((o + s) % 5 + 1)) N := by
  obtain ⟨hb, g0, g1, h0, h1, hk⟩ := hH
  obtain ⟨X, e1, e2⟩ := copyFrom_eq (G ((o + s) % 5 + 1)) v
  refine ⟨va_up G ((o + s) % 5 + 1) X, ?_, ⟨hb, ?_, ?_, h0, h1, ?_⟩, ?_⟩
  · unfold f_X1_note
    rw [g0, g1, nI_add, md5 _ (by omega), ix_nI (by omega) (by omega), ob_s, e1, ob_s]
  · rw [va_up_at, if_neg (by omega)]; exact g0
  · rw [va_up_at, if_neg (by omega)]; exact g1
  · intro i hi
    rw [va_up_at, if_neg (by omega)]
    exact hk i hi
  · rw [va_up_at, if_pos rfl]
    exact hK.congr e2 (fun _ _ => rfl)
theorem keep_eq {o s a : Nat} {G : Nat → FV} {V v1 v2 v3 : FV} {N0 : Nat → Int32} (hH : HsP o s a G V) (hX : K (G ((o + s) % 5 + 1)) N0) (h2 : ∀ j, j < 236 → V 2 j = N0 j) (r : Int32) : ∃ (G1 : Nat → FV) (V1 : FV), f_X3_keepIfDone v1 v2 G v3 r = some (r, (v1, v2, G1, v3)) ∧ f_X4_recorded V r = some (r, V1) ∧ (∃ o s a, HsP o s a G1 V1) ∧ V1 1 = V 1 ∧ V1 4 = V 4 ∧ V1 0 2 = V 0 2 := by
  by_cases hr : r < 0
  · refine ⟨G, V, ?_, ?_, ⟨o, s, a, hH⟩, rfl, rfl, rfl⟩
    · unfold f_X3_keepIfDone; rw [if_pos hr]
    · unfold f_X4_recorded; rw [if_pos hr]
  · obtain ⟨hb, g0, g1, h0, h1, hk⟩ := hH
    have far : ∀ b j, b ≠ a → b < 4 → j < 236 → rcE V a s 3 (236 * b + j) = V 3 (236 * b + j) := fun b j hb hb4 hj => by
      show bk3 V a 236 (236 * b + j) = _
      exact if_neg (by omega)
    have new : ∀ j, j < 236 → rcE V a s 3 (236 * a + j) = N0 j := fun j hj => by
      show bk3 V a 236 (236 * a + j) = _
      unfold bk3
      rw [if_pos (by omega), Nat.add_sub_cancel_left]
      exact h2 j hj
    have r1 : rcE V a s 0 1 = nI ((a + 1) % 4) := rfl
    have r0 : rcE V a s 0 0 = nI (if 4 ≤ s then 4 else s + 1) := rfl
    by_cases hs : 4 ≤ s
    · have hs4 : s = 4 := by omega
      subst hs4
      refine ⟨stG G 0 0 0 (nI ((o + 1) % 5)), rcE V a 4, ?_, rec_eq hb.2.2 hb.2.1 h1 h0 hr, ⟨(o + 1) % 5, 4, (a + 1) % 4, by omega, ?_, ?_, r0, r1, ?_⟩, rfl, rfl, rfl⟩
      · unfold f_X3_keepIfDone f_X1_keep
        rw [if_neg hr, g1, if_pos (show (4 : Int32) ≤ nI 4 from nI_le (a := 4) (b := 4) (by omega) (by omega)), lt1_mk, g0, nI_1, md5 _ (by omega), ob_s]
      · show st (G 0) 0 0 (nI ((o + 1) % 5)) 0 0 = _
        exact st_eq
      · show st (G 0) 0 0 (nI ((o + 1) % 5)) 0 1 = _
        rw [st_ne (by omega)]; exact g1
      · intro i hi
        show K (if ((o + 1) % 5 + i) % 5 + 1 = 0 then _ else G (((o + 1) % 5 + i) % 5 + 1)) _
        rw [if_neg (by omega)]
        by_cases ci : i = 3
        · subst ci
          rw [show ((o + 1) % 5 + 3) % 5 = (o + 4) % 5 by omega, show ((a + 1) % 4 + 4 - 4 + 3) % 4 = a by omega]
          exact hX.congr (fun _ _ _ => rfl) (fun j hj => new j hj)
        · have := hk (i + 1) (by omega)
          rw [show ((o + 1) % 5 + i) % 5 = (o + (i + 1)) % 5 by omega, show ((a + 1) % 4 + 4 - 4 + i) % 4 = (a + 4 - 4 + (i + 1)) % 4 by omega]
          exact this.congr (fun _ _ _ => rfl) (fun j hj => far _ j (by omega) (by omega) hj)
    · rw [if_neg hs] at r0
      refine ⟨stG G 0 0 1 (nI (s + 1)), rcE V a s, ?_, rec_eq hb.2.2 hb.2.1 h1 h0 hr, ⟨o, s + 1, (a + 1) % 4, by omega, ?_, ?_, r0, r1, ?_⟩, rfl, rfl, rfl⟩
      · unfold f_X3_keepIfDone f_X1_keep
        rw [if_neg hr, g1, if_neg (show ¬ (4 : Int32) ≤ nI s from nI_ge (b := 4) (by omega) (by omega)), lt1_mk, nI_1, ob_s]
      · show st (G 0) 0 1 (nI (s + 1)) 0 0 = _
        rw [st_ne (by omega)]; exact g0
      · show st (G 0) 0 1 (nI (s + 1)) 0 1 = _
        exact st_eq
      · intro i hi
        show K (if (o + i) % 5 + 1 = 0 then _ else G ((o + i) % 5 + 1)) _
        rw [if_neg (by omega)]
        by_cases ci : i = s
        · subst ci
          rw [show ((a + 1) % 4 + 4 - (i + 1) + i) % 4 = a by omega]
          exact hX.congr (fun _ _ _ => rfl) (fun j hj => new j hj)
        · rw [show ((a + 1) % 4 + 4 - (s + 1) + i) % 4 = (a + 4 - s + i) % 4 by omega]
          exact (hk i (by omega)).congr (fun _ _ _ => rfl) (fun j hj => far _ j (by omega) (by omega) hj)
theorem undo_eq {o s a : Nat} {G : Nat → FV} {V v1 v2 v3 : FV} (hH : HsP o s a G V) (hK : K v1 (V 1)) : ∃ (r : Int32) (w1 : FV) (G1 : Nat → FV) (V1 : FV), f_X3_undo v1 v2 G v3 = some (r, (w1, v2, G1, v3)) ∧ f_X4_undo V = some (r, V1) ∧ (∃ o s a, HsP o s a G1 V1) ∧ K w1 (V1 1) ∧ V1 4 = V 4 ∧ V1 0 2 = V 0 2 := by
  have hH' := hH
  obtain ⟨hb, g0, g1, h0, h1, hk⟩ := hH
  unfold f_X3_undo f_X4_undo
  rw [g1, h0, h1]
  rcases Nat.eq_zero_or_pos s with hs | hs
  · subst hs
    exact ⟨-2, v1, G, V, rfl, rfl, ⟨o, 0, a, hH'⟩, hK, rfl, rfl⟩
  · have hne : ¬ nI s = 0 := fun e => by have := (nI_eq (a := s) (b := 0) (by omega) (by omega)).mp e; omega
    have es : nI s - 1 = nI (s - 1) := by rw [show (1 : Int32) = nI 1 from rfl, nI_subN hs]
    have e4 : nI a + 4 - 1 = nI (a + 3) := by rw [show (4 : Int32) = nI 4 from rfl, show (1 : Int32) = nI 1 from rfl, nI_add, nI_subN (by omega)]; rfl
    rw [if_neg hne, if_neg hne, e4, md4 _ (by omega), lt1_mk, st_ne (i := 0) (j := 1) (a := 0) (b := 0) (by omega), h0, es, lt1_mk]
    have hg1 : stG G 0 0 1 (nI (s - 1)) 0 0 0 = nI o := by
      show st (G 0) 0 1 (nI (s - 1)) 0 0 = _
      rw [st_ne (by omega)]; exact g0
    have hg2 : stG G 0 0 1 (nI (s - 1)) 0 0 1 = nI (s - 1) := by
      show st (G 0) 0 1 (nI (s - 1)) 0 1 = _
      exact st_eq
    obtain ⟨X, e1, e2⟩ := copyFrom_eq v1 (stG G 0 0 1 (nI (s - 1)) ((o + (s - 1)) % 5 + 1))
    obtain ⟨m, hm⟩ := FUEL_ge (k := 237) (by omega)
    obtain ⟨W, hW⟩ : ∃ W, W = st (st V 0 1 (nI ((a + 3) % 4))) 0 0 (nI (s - 1)) := ⟨_, rfl⟩
    have w0 : W 0 0 = nI (s - 1) := by rw [hW]; exact st_eq
    have w1 : W 0 1 = nI ((a + 3) % 4) := by rw [hW, st_ne (by omega)]; exact st_eq
    have w2 : W 0 2 = V 0 2 := by rw [hW, st_ne (by omega), st_ne (by omega)]
    have w3 : W 3 = V 3 := by rw [hW]; rfl
    have w4 : W 4 = V 4 := by rw [hW]; rfl
    rw [← hW]
    have hu := undo_loop (V := W) (a := (a + 3) % 4) (by omega) w1 236 0 m (by omega)
    rw [cpF_0, sM_self, w0] at hu
    refine ⟨nI (s - 1), X, stG G 0 0 1 (nI (s - 1)), sM W (cpF 236 (fun j => W 3 (236 * ((a + 3) % 4) + j)) (W 1)), ?_, ?_, ⟨o, s - 1, (a + 3) % 4, by omega, hg1, hg2, w0, w1, ?_⟩, ?_, w4, w2⟩
    · unfold f_X1_giveBack
      rw [g1, if_neg (fun h => by rw [i_le, nI_toInt (by omega), i_0] at h; omega), es, lt1_mk, hg1, hg2, nI_add, md5 _ (by omega), ix_nI (by omega) (by omega), ob_s, e1, ob_s, ob_s]
      show some (stG G 0 0 1 (nI (s - 1)) 0 0 1, (X, v2, stG G 0 0 1 (nI (s - 1)), v3)) = _
      rw [hg2]
    · rw [hm]
      exact hu
    · intro i hi
      show K (if (o + i) % 5 + 1 = 0 then _ else G ((o + i) % 5 + 1)) (fun j => W 3 (236 * (((a + 3) % 4 + 4 - (s - 1) + i) % 4) + j))
      rw [w3, if_neg (by omega), show ((a + 3) % 4 + 4 - (s - 1) + i) % 4 = (a + 4 - s + i) % 4 by omega]
      exact hk i (by omega)
    · have := hk (s - 1) (by omega)
      rw [show (a + 4 - s + (s - 1)) % 4 = (a + 3) % 4 by omega] at this
      refine this.congr e2 (fun j hj => ?_)
      show cpF 236 (fun j => W 3 (236 * ((a + 3) % 4) + j)) (W 1) j = _
      rw [cpF_lt hj, w3]
