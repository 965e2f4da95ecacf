/-! ===== requests, droughts ===== -/
theorem n10 : ¬ (1 : Int32) = 0 := by decide
theorem Rel.req {n d q : Nat} {V : FV} {N : Nat → Int32} (h : Rel n d q V N) (hn : n ≤ 12) (hd : d ≤ 20) (hq : q < 8) (a b c : Int32) : Rel n d (q + 1) (st (st (st (st V 22 q a) 23 q b) 24 q c) 0 2 (nI (q + 1))) (upd (upd (upd (upd N (212 + 3 * q) a) (212 + 3 * q + 1) b) (212 + 3 * q + 2) c) 5 (nI (q + 1))) := by
  obtain ⟨⟨a1, a2, a3, a4, a5, a6, a7, a8, a9, a10⟩, hb, hc, he, hf, hg⟩ := h
  have far : ∀ j, (j < 5 ∨ (5 < j ∧ j < 212)) → upd (upd (upd (upd N (212 + 3 * q) a) (212 + 3 * q + 1) b) (212 + 3 * q + 2) c) 5 (nI (q + 1)) j = N j := fun j hj => by
    rw [upd_ne (by omega), upd_ne (by omega), upd_ne (by omega), upd_ne (by omega)]
  have farV : ∀ i j, (i ≠ 0 ∨ j ≠ 2) → i < 22 → st (st (st (st V 22 q a) 23 q b) 24 q c) 0 2 (nI (q + 1)) i j = V i j := fun i j hi hj => by
    rw [st_ne (by omega), st_ne (by omega), st_ne (by omega), st_ne (by omega)]
  refine ⟨⟨?_, ?_, ?_, ?_, st_eq, upd_eq, ?_, ?_, ?_, ?_⟩, ?_, ?_, ?_, ?_, ?_⟩
  · rw [farV _ _ (by omega) (by omega)]; exact a1
  · rw [far _ (by omega)]; exact a2
  · rw [farV _ _ (by omega) (by omega)]; exact a3
  · rw [far _ (by omega)]; exact a4
  · rw [farV _ _ (by omega) (by omega), far _ (by omega)]; exact a7
  · rw [farV _ _ (by omega) (by omega), far _ (by omega)]; exact a8
  · rw [farV _ _ (by omega) (by omega), far _ (by omega)]; exact a9
  · rw [farV _ _ (by omega) (by omega), far _ (by omega)]; exact a10
  · intro w r h1 h2; rw [farV _ _ (by omega) (by omega), far _ (by omega)]; exact hb w r h1 h2
  · intro w h1; rw [farV _ _ (by omega) (by omega), hc w h1]; exact bl_congr n (fun g hg => (far _ (by omega)).symm)
  · intro w r h1 h2 h3 h4; rw [farV _ _ (by omega) (by omega)]; exact he w r h1 h2 h3 h4
  · intro i k h1 h2; rw [farV _ _ (by omega) (by omega), far _ (by omega)]; exact hf i k h1 h2
  · intro i k h1 h2
    rw [st_ne (by omega), upd_ne (by omega)]
    by_cases ci : i = q
    · subst ci
      rcases (show k = 0 ∨ k = 1 ∨ k = 2 by omega) with rfl | rfl | rfl
      · rw [st_ne (by omega), st_ne (by omega), upd_ne (by omega), upd_ne (by omega)]; exact st_eq.trans upd_eq.symm
      · rw [st_ne (by omega), upd_ne (by omega), st_eq, upd_eq]
      · rw [st_eq, upd_eq]
    · rw [st_ne (by omega), st_ne (by omega), st_ne (by omega), upd_ne (by omega), upd_ne (by omega), upd_ne (by omega)]
      exact hg i k (by omega) h2
theorem ds_congr {N M : Nat → Int32} : ∀ k, (∀ g r, g < k → r < 12 → M (8 + 12 * g + r) = N (8 + 12 * g + r)) → ds M k = ds N k := by
  intro k
  induction k with
  | zero => intro _; rfl
  | succ k ih =>
    intro h
    show ds M k + _ = ds N k + _
    rw [ih (fun g r hg hr => h g r (by omega) hr), h k 8 (by omega) (by omega), h k 9 (by omega) (by omega)]
theorem WW.congr {N M : Nat → Int32} {w : Nat} (h : WW N w) (he : ∀ r, r < 12 → M (8 + 12 * w + r) = N (8 + 12 * w + r)) : WW M w := by
  obtain ⟨a1, a2, a3, a4, a5, a6⟩ := h
  have e0 : M (8 + 12 * w) = N (8 + 12 * w) := he 0 (by omega)
  exact ⟨fun e => by rw [e0]; exact a1 e, fun e => by rw [e0]; exact a2 e, by rw [he 1 (by omega)]; exact a3, by rw [he 2 (by omega)]; exact a4, by rw [he 3 (by omega)]; exact a5, by rw [he 4 (by omega), he 1 (by omega)]; exact a6⟩
theorem Wf.req {n d q : Nat} {T : Int} {N : Nat → Int32} (h : Wf n d q T N) (hq : q < 8) {w : Nat} (hw : w < n) {b c : Int32} (hb1 : 1 ≤ b.toInt ∧ b.toInt ≤ 999) : Wf n d (q + 1) T (upd (upd (upd (upd N (212 + 3 * q) (nI w)) (212 + 3 * q + 1) b) (212 + 3 * q + 2) c) 5 (nI (q + 1))) := by
  obtain ⟨hb, h0, h1, h2, hW, hD, hQ, hQ2, h6⟩ := h
  have far : ∀ j, (j < 5 ∨ (5 < j ∧ j < 212)) → upd (upd (upd (upd N (212 + 3 * q) (nI w)) (212 + 3 * q + 1) b) (212 + 3 * q + 2) c) 5 (nI (q + 1)) j = N j := fun j hj => by
    rw [upd_ne (by omega), upd_ne (by omega), upd_ne (by omega), upd_ne (by omega)]
  refine ⟨⟨hb.1, hb.2.1, by omega⟩, by rw [far 0 (by omega)]; exact h0, by rw [far 1 (by omega)]; exact h1, by rw [far 2 (by omega)]; exact h2, ?_, ?_, ?_, ?_, ?_⟩
  · intro g hg; exact (hW g hg).congr (fun r hr => far _ (by omega))
  · intro i hi; rw [far _ (by omega)]; exact hD i hi
  · intro i hi
    rw [upd_ne (by omega)]
    by_cases ci : i = q
    · subst ci
      exact ⟨w, hw, by rw [upd_ne (by omega), upd_ne (by omega), upd_eq]⟩
    · rw [upd_ne (by omega), upd_ne (by omega), upd_ne (by omega)]
      exact hQ i (by omega)
  · intro i hi
    rw [upd_ne (by omega)]
    by_cases ci : i = q
    · subst ci
      rw [upd_ne (by omega), upd_eq]; exact hb1
    · rw [upd_ne (by omega), upd_ne (by omega), upd_ne (by omega)]
      exact hQ2 i (by omega)
  · rw [far 6 (by omega), h6]
    exact (ds_congr n (fun g r hg hr => far _ (by omega))).symm
theorem request_sim {n d q : Nat} {T : Int} {V Vm : FV} {N : Nat → Int32} (hO : Ok n d q T V N) (p1 p2 : Int32) : ∃ (r : Int32) (V' : FV) (N' : Nat → Int32) (q' : Nat), f_X0_takeRequest V p1 p2 = some (r, V') ∧ f_X4_requests (sM Vm N) p1 p2 = some (r, sM Vm N') ∧ Ok n d q' T V' N' ∧ (∀ c, Cl n c N → Cl n c N') ∧ N' 0 = N 0 ∧ (r < 0 → N' = N) := by
  have hb := hO.2.1
  have app : ∀ (V1 : FV), Ok n d q T V1 N → ∀ w0, w0 < n → 1 ≤ p2.toInt → p2.toInt ≤ 999 → ∃ (r : Int32) (V' : FV) (N' : Nat → Int32) (q' : Nat),
      (if (V1 0 2) < 8 then ((wr 8 V1 22 (V1 0 2) (nI w0)).bind fun V7 => ((wr 8 V7 23 (V7 0 2) p2).bind fun V8 => ((wr 8 V8 24 (V8 0 2) (V8 0 3)).bind fun V9 => (lt1 (st V9 0 2 ((V9 0 2) + 1)) fun V10 => some (V10 0 2, V10))))) else some ((-3), V1)) = some (r, V') ∧
      (if (sM Vm N 1 5) = 8 then some ((-3), sM Vm N) else ((wr 236 (sM Vm N) 1 (212 + (3 * (sM Vm N 1 5))) (nI w0)).bind fun V7 => ((wr 236 V7 1 ((212 + (3 * (sM Vm N 1 5))) + 1) p2).bind fun V8 => ((wr 236 V8 1 ((212 + (3 * (sM Vm N 1 5))) + 2) (V8 1 0)).bind fun V9 => (lt1 (st V9 1 5 ((V9 1 5) + 1)) fun V10 => some (V10 1 5, V10)))))) = some (r, sM Vm N') ∧ Ok n d q' T V' N' ∧ (∀ c, Cl n c N → Cl n c N') ∧ N' 0 = N 0 ∧ (r < 0 → N' = N) := by
    intro V1 hO1 w0 hw h1 h2
    have e2 : V1 0 2 = nI q := hO1.1.1.2.2.2.2.1
    have e5 : N 5 = nI q := hO1.1.1.2.2.2.2.2.1
    have e3 : V1 0 3 = N 0 := hO1.1.1.2.2.2.2.2.2.1
    rw [sM_1, e2, e5]
    rcases Nat.lt_or_ge q 8 with hq | hq
    · rw [show (8 : Int32) = nI 8 from rfl, if_pos (nI_lt hq (by omega)), if_neg (fun e => by have := (nI_eq (by omega) (by omega)).mp e; omega), ix_q, nI_1, nI_2, wr_nI (by omega) (by omega), ob_s,
        show st V1 22 q (nI w0) 0 2 = nI q from e2, wr_nI (by omega) (by omega), ob_s, show st (st V1 22 q (nI w0)) 23 q p2 0 2 = nI q from e2, show st (st V1 22 q (nI w0)) 23 q p2 0 3 = N 0 from e3, wr_nI (by omega) (by omega), ob_s, lt1_mk,
        show st (st (st V1 22 q (nI w0)) 23 q p2) 24 q (N 0) 0 2 = nI q from e2, nI_1, st_eq]
      rw [wr_nI (by omega) (by omega), ob_s, st_sM2, wr_nI (by omega) (by omega), ob_s, st_sM2, sM_1, wr_nI (by omega) (by omega), ob_s, st_sM2, lt1_mk, sM_1, st_sM2, sM_1]
      have w0' : upd (upd N (212 + 3 * q) (nI w0)) (212 + 3 * q + 1) p2 0 = N 0 := by rw [upd_ne (by omega), upd_ne (by omega)]
      have w5 : upd (upd (upd N (212 + 3 * q) (nI w0)) (212 + 3 * q + 1) p2) (212 + 3 * q + 2) (N 0) 5 = nI q := by rw [upd_ne (by omega), upd_ne (by omega), upd_ne (by omega), e5]
      rw [w0', w5, nI_1, upd_eq]
      refine ⟨nI (q + 1), _, _, q + 1, rfl, rfl, ⟨hO1.1.req hb.1 hb.2.1 hq _ _ _, hO1.2.req hq hw ⟨h1, h2⟩⟩, ?_, ?_, ?_⟩
      · intro c hc
        exact hc.far (fun w hw => by rw [upd_ne (by omega), upd_ne (by omega), upd_ne (by omega), upd_ne (by omega)])
      · rw [upd_ne (by omega), upd_ne (by omega), upd_ne (by omega), upd_ne (by omega)]
      · intro h; exact absurd h (nI_pos (by omega))
    · have hq8 : q = 8 := by omega
      subst hq8
      rw [if_neg (show ¬ nI 8 < (8 : Int32) by decide), if_pos (show nI 8 = (8 : Int32) by decide)]
      exact ⟨-3, V1, N, 8, rfl, rfl, hO1, fun _ h => h, rfl, fun _ => rfl⟩
  have e2 : V 0 2 = nI q := hO.1.1.2.2.2.2.1
  have e5 : N 5 = nI q := hO.1.1.2.2.2.2.2.1
  unfold f_X0_takeRequest f_X4_requests
  rcases ix_case n hb.1 p1 with ⟨w0, hw, rfl⟩ | hno
  · rw [x0_isWell_y hO.1.1.1 hb.1 hw, ob_s, if_neg n10, x4_isWell_y (x4W hO.1) hb.1 hw, ob_s, if_neg n10, areB_eq, ob_s, isDraw_eq, ob_s]
    rcases bk_case p2 with h | ⟨h, h1, h2⟩
    · rw [h, if_pos rfl, if_pos rfl]
      exact ⟨-1, V, N, q, rfl, rfl, hO, fun _ h => h, rfl, fun _ => rfl⟩
    · rw [h, if_neg n10, if_neg n10]
      by_cases cq : q = 0
      · rw [if_pos (by rw [e2, cq]; rfl), if_pos (by rw [sM_1, e5, cq]; rfl), share_eq hO hw, b2_mk]
        obtain ⟨a, ha, hai⟩ := ableOf_eq (V := sM Vm N) (N := N) rfl hO.2 hw
        have hs := share_toInt hO hw (b := p2) (by omega)
        rw [ha, ob_s]
        by_cases hp : p2.toInt ≤ abl N w0 12 w0
        · rw [if_pos (by rw [i_eq, hs]; omega), if_neg (show ¬ a < p2 by rw [i_lt, hai]; omega)]
          obtain ⟨l, V', N', e1, e2, e3, e4, e5, e6⟩ := take_both (Vm := Vm) hO hw (b := p2) (by omega) hp
          rw [e1, b2_mk, e2, b2_mk]
          exact ⟨0, V', N', q, rfl, rfl, e3, e4, e5 0 (by omega), fun h => absurd h (by decide)⟩
        · rw [if_neg (by rw [i_eq, hs]; omega), if_pos (show a < p2 by rw [i_lt, hai]; omega)]
          exact app _ ⟨hO.1.sS, hO.2⟩ w0 hw h1 h2
      · have hq0 : ¬ nI q = 0 := nI_ne0 (by omega) (by omega)
        rw [if_neg (show ¬ V 0 2 = 0 by rw [e2]; exact hq0), if_neg (show ¬ sM Vm N 1 5 = 0 by rw [sM_1, e5]; exact hq0)]
        exact app V hO w0 hw h1 h2
  · rw [x0_isWell_n hO.1.1.1 hno, ob_s, if_pos rfl, x4_isWell_n (x4W hO.1) hb.1 hno, ob_s, if_pos rfl]
    exact ⟨-1, V, N, q, rfl, rfl, hO, fun _ h => h, rfl, fun _ => rfl⟩
/-! droughts -/
theorem Rel.drt {n d q : Nat} {V : FV} {N : Nat → Int32} (h : Rel n d q V N) (hn : n ≤ 12) (hd : d < 20) (a b c : Int32) : Rel n (d + 1) q (st (st (st (st V 19 d a) 20 d b) 21 d c) 0 1 (nI (d + 1))) (upd (upd (upd (upd N (152 + 3 * d) a) (152 + 3 * d + 1) b) (152 + 3 * d + 2) c) 4 (nI (d + 1))) := by
  obtain ⟨⟨a1, a2, a3, a4, a5, a6, a7, a8, a9, a10⟩, hb, hc, he, hf, hg⟩ := h
  have far : ∀ j, (j < 4 ∨ (4 < j ∧ j < 152) ∨ 212 ≤ j) → upd (upd (upd (upd N (152 + 3 * d) a) (152 + 3 * d + 1) b) (152 + 3 * d + 2) c) 4 (nI (d + 1)) j = N j := fun j hj => by
    rw [upd_ne (by omega), upd_ne (by omega), upd_ne (by omega), upd_ne (by omega)]
  have farV : ∀ i j, (i ≠ 0 ∨ j ≠ 1) → (i < 19 ∨ 22 ≤ i) → st (st (st (st V 19 d a) 20 d b) 21 d c) 0 1 (nI (d + 1)) i j = V i j := fun i j hi hj => by
    rw [st_ne (by omega), st_ne (by omega), st_ne (by omega), st_ne (by omega)]
  refine ⟨⟨?_, ?_, st_eq, upd_eq, ?_, ?_, ?_, ?_, ?_, ?_⟩, ?_, ?_, ?_, ?_, ?_⟩
  · rw [farV _ _ (by omega) (by omega)]; exact a1
  · rw [far _ (by omega)]; exact a2
  · rw [farV _ _ (by omega) (by omega)]; exact a5
  · rw [far _ (by omega)]; exact a6
  · rw [farV _ _ (by omega) (by omega), far _ (by omega)]; exact a7
  · rw [farV _ _ (by omega) (by omega), far _ (by omega)]; exact a8
  · rw [farV _ _ (by omega) (by omega), far _ (by omega)]; exact a9
  · rw [farV _ _ (by omega) (by omega), far _ (by omega)]; exact a10
  · intro w r h1 h2; rw [farV _ _ (by omega) (by omega), far _ (by omega)]; exact hb w r h1 h2
  · intro w h1; rw [farV _ _ (by omega) (by omega), hc w h1]; exact bl_congr n (fun g hg => (far _ (by omega)).symm)
  · intro w r h1 h2 h3 h4; rw [farV _ _ (by omega) (by omega)]; exact he w r h1 h2 h3 h4
  · intro i k h1 h2
    rw [st_ne (by omega), upd_ne (by omega)]
    by_cases ci : i = d
    · subst ci
      rcases (show k = 0 ∨ k = 1 ∨ k = 2 by omega) with rfl | rfl | rfl
      · rw [st_ne (by omega), st_ne (by omega), upd_ne (by omega), upd_ne (by omega)]; exact st_eq.trans upd_eq.symm
      · rw [st_ne (by omega), upd_ne (by omega), st_eq, upd_eq]
      · rw [st_eq, upd_eq]
    · rw [st_ne (by omega), st_ne (by omega), st_ne (by omega), upd_ne (by omega), upd_ne (by omega), upd_ne (by omega)]
      exact hf i k (by omega) h2
  · intro i k h1 h2; rw [farV _ _ (by omega) (by omega), far _ (by omega)]; exact hg i k h1 h2
theorem Wf.drt {n d q : Nat} {T : Int} {N : Nat → Int32} (h : Wf n d q T N) (hd : d < 20) {w : Nat} (hw : w < n) {b c : Int32} : Wf n (d + 1) q T (upd (upd (upd (upd N (152 + 3 * d) (nI w)) (152 + 3 * d + 1) b) (152 + 3 * d + 2) c) 4 (nI (d + 1))) := by
  obtain ⟨hb, h0, h1, h2, hW, hD, hQ, hQ2, h6⟩ := h
  have far : ∀ j, (j < 4 ∨ (4 < j ∧ j < 152) ∨ 212 ≤ j) → upd (upd (upd (upd N (152 + 3 * d) (nI w)) (152 + 3 * d + 1) b) (152 + 3 * d + 2) c) 4 (nI (d + 1)) j = N j := fun j hj => by
    rw [upd_ne (by omega), upd_ne (by omega), upd_ne (by omega), upd_ne (by omega)]
  refine ⟨⟨hb.1, by omega, hb.2.2⟩, by rw [far 0 (by omega)]; exact h0, by rw [far 1 (by omega)]; exact h1, by rw [far 2 (by omega)]; exact h2, ?_, ?_, ?_, ?_, ?_⟩
  · intro g hg; exact (hW g hg).congr (fun r hr => far _ (by omega))
  · intro i hi
    rw [upd_ne (by omega)]
    by_cases ci : i = d
    · subst ci
      exact ⟨w, hw, by rw [upd_ne (by omega), upd_ne (by omega), upd_eq]⟩
    · rw [upd_ne (by omega), upd_ne (by omega), upd_ne (by omega)]
      exact hD i (by omega)
  · intro i hi; rw [far _ (by omega)]; exact hQ i hi
  · intro i hi; rw [far _ (by omega)]; exact hQ2 i hi
  · rw [far 6 (by omega), h6]
    exact (ds_congr n (fun g r hg hr => far _ (by omega))).symm
theorem drought_sim {n d q : Nat} {T : Int} (hT : T ≤ 100000) {V Vm : FV} {N : Nat → Int32} (hO : Ok n d q T V N) (p1 p2 p3 : Int32) : ∃ (r : Int32) (V' : FV) (N' : Nat → Int32) (d' : Nat), f_X0_addDrought V p1 p2 p3 = some (r, V') ∧ f_X4_addsDrought (sM Vm N) p1 p2 p3 = some (r, sM Vm N') ∧ Ok n d' q T V' N' ∧ (∀ c, Cl n c N → Cl n c N') ∧ N' 0 = N 0 ∧ (r < 0 → N' = N) := by
  have hb := hO.2.1
  have h0 := hO.2.2.1
  have e1 : V 0 1 = nI d := hO.1.1.2.2.1
  have e4 : N 4 = nI d := hO.1.1.2.2.2.1
  have e3 : V 0 3 = N 0 := hO.1.1.2.2.2.2.2.2.1
  have err : ∃ (r : Int32) (V' : FV) (N' : Nat → Int32) (d' : Nat), (some ((-1 : Int32), V) : Option (Int32 × FV)) = some (r, V') ∧ (some ((-1 : Int32), sM Vm N) : Option (Int32 × FV)) = some (r, sM Vm N') ∧ Ok n d' q T V' N' ∧ (∀ c, Cl n c N → Cl n c N') ∧ N' 0 = N 0 ∧ (r < 0 → N' = N) := ⟨-1, V, N, d, rfl, rfl, hO, fun _ h => h, rfl, fun _ => rfl⟩
  unfold f_X0_addDrought f_X4_addsDrought
  rcases ix_case n hb.1 p1 with ⟨w0, hw, rfl⟩ | hno
  · rw [x0_isWell_y hO.1.1.1 hb.1 hw, ob_s, if_neg n10, x4_isWell_y (x4W hO.1) hb.1 hw, ob_s, if_neg n10, sM_1, e3]
    have hp : (N 0 + 1).toInt = (N 0).toInt + 1 := fb_addI (y := 1) (by rw [show (1 : Int32).toInt = 1 from rfl]; omega) (by rw [show (1 : Int32).toInt = 1 from rfl]; omega)
    by_cases c1 : p2 ≤ N 0
    · rw [if_pos c1, in_n (Or.inl (by rw [i_lt, hp]; rw [i_le] at c1; omega)), ob_s, if_pos rfl]
      exact err
    · rw [if_neg c1]
      by_cases c2 : 60000 < p2
      · rw [if_pos c2, in_n (Or.inr c2), ob_s, if_pos rfl]
        exact err
      · rw [if_neg c2, in_y (by rw [i_lt, hp]; rw [i_le] at c1; omega) c2, ob_s, if_neg n10]
        by_cases c3 : p3 < p2
        · rw [if_pos c3, in_n (Or.inl c3), ob_s, if_pos rfl]
          exact err
        · rw [if_neg c3]
          by_cases c4 : p3 ≤ 60000
          · rw [if_pos c4, in_y c3 (by rw [i_lt]; rw [i_le] at c4; omega), ob_s, if_neg n10, e1, e4]
            rcases Nat.lt_or_ge d 20 with hd | hd
            · rw [show (20 : Int32) = nI 20 from rfl, if_pos (nI_lt hd (by omega)), if_neg (fun e => by have := (nI_eq (by omega) (by omega)).mp e; omega), ix_d, nI_1, nI_2, wr_nI (by omega) (by omega), ob_s,
                show st V 19 d (nI w0) 0 1 = nI d from e1, wr_nI (by omega) (by omega), ob_s, show st (st V 19 d (nI w0)) 20 d p2 0 1 = nI d from e1, wr_nI (by omega) (by omega), ob_s, lt1_mk,
                show st (st (st V 19 d (nI w0)) 20 d p2) 21 d p3 0 1 = nI d from e1, nI_1]
              rw [wr_nI (by omega) (by omega), ob_s, st_sM2, wr_nI (by omega) (by omega), ob_s, st_sM2, wr_nI (by omega) (by omega), ob_s, st_sM2, lt1_mk, sM_1, st_sM2, sM_1]
              have w4 : upd (upd (upd N (152 + 3 * d) (nI w0)) (152 + 3 * d + 1) p2) (152 + 3 * d + 2) p3 4 = nI d := by rw [upd_ne (by omega), upd_ne (by omega), upd_ne (by omega), e4]
              rw [w4, nI_1, upd_eq, nI_pred]
              refine ⟨nI d, _, _, d + 1, rfl, rfl, ⟨hO.1.drt hb.1 hd _ _ _, hO.2.drt hd hw⟩, ?_, ?_, ?_⟩
              · intro c hc
                exact hc.far (fun w hw => by rw [upd_ne (by omega), upd_ne (by omega), upd_ne (by omega), upd_ne (by omega)])
              · rw [upd_ne (by omega), upd_ne (by omega), upd_ne (by omega), upd_ne (by omega)]
              · intro h; exact absurd h (nI_pos (by omega))
            · have hd8 : d = 20 := by omega
              subst hd8
              rw [if_neg (show ¬ nI 20 < (20 : Int32) by decide), if_pos (show nI 20 = (20 : Int32) by decide)]
              exact ⟨-3, V, N, 20, rfl, rfl, hO, fun _ h => h, rfl, fun _ => rfl⟩
          · rw [if_neg c4, in_n (Or.inr (by rw [i_lt]; rw [i_le] at c4; omega)), ob_s, if_pos rfl]
            exact err
  · rw [x0_isWell_n hO.1.1.1 hno, ob_s, if_pos rfl, x4_isWell_n (x4W hO.1) hb.1 hno, ob_s, if_pos rfl]
    exact err
