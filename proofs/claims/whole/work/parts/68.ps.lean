/-! ===== texts: the run of a text, fault, play ===== -/
theorem run_loop {len : Nat} : ∀ (t i p m m' : Nat) (U V Vm : FV), i + t = 60 → i ≤ p → TR len p V Vm → K U (Vm 1) → V 0 4 = 0 → Vm 0 4 = 0 → V 0 2 = Vm 0 6 → ∃ (U' V' Vm' : FV), f_X2_runOn_L22 (m + t + 1) (nI i) U V = some (U', V') ∧ f_X4_tries_L15 (m' + t + 1) Vm = some Vm' ∧ K U' (Vm' 1) ∧ V' 0 4 = Vm' 0 4 ∧ (V' 0 4 = 0 → V' 0 2 = Vm' 0 6) ∧ (¬ V' 0 4 = 0 → V' 0 3 = Vm' 0 5) ∧ V' 1 = V 1 ∧ V' 0 0 = V 0 0 ∧ (∀ a, a = 2 ∨ a = 3 ∨ a = 4 → Vm' a = Vm a) ∧ (∀ j, j < 3 → Vm' 0 j = Vm 0 j) := by
  intro t
  induction t with
  | zero =>
    intro i p m m' U V Vm h hip hR hK e4 e4m e2
    have hR' := hR
    obtain ⟨hb, h0, h2, h1, h3, ht⟩ := hR'
    refine ⟨U, V, Vm, ?_, ?_, hK, by rw [e4, e4m], fun _ => e2, fun h => absurd e4 h, rfl, rfl, fun _ _ => rfl, fun _ _ => rfl⟩
    · show (if 60 ≤ nI i then some ((U, V)) else _) = _
      rw [if_pos (show (60 : Int32) ≤ nI i from nI_le (a := 60) (by omega) (by omega))]
    · show (if (Vm 0 2) ≤ (Vm 0 3) then _ else _) = _
      rw [h2, h3, if_pos (nI_le (by omega) (by omega))]
  | succ t ih =>
    intro i p m m' U V Vm h hip hR hK e4 e4m e2
    have hR' := hR
    obtain ⟨hb, h0, h2, h1, h3, ht⟩ := hR'
    show ∃ (U' V' Vm' : FV), (if 60 ≤ nI i then some ((U, V)) else (if (V 0 0) ≤ (V 0 1) then some ((U, V)) else (lt1 (st V 0 3 (V 0 1)) fun V7 => ((rd 60 (V7 1) (V7 0 1)).bind fun x8 => OC (fun U V => f_X2_runOn_L22 (m + t + 1) (nI i + 1) U V) U V7 x8)))) = some (U', V') ∧
      (if (Vm 0 2) ≤ (Vm 0 3) then some Vm else (if (Vm 0 4) = 0 then (lt1 (st Vm 0 5 (Vm 0 3)) fun V6 => ((f_X4_order V6).bind fun V7 => (lt1 (st V7 0 6 ((V7 0 6) + 1)) fun V8 => (f_X4_tries_L15 (m' + t + 1) V8)))) else some Vm)) = some Vm' ∧ _
    rw [if_neg (show ¬ (60 : Int32) ≤ nI i from nI_ge (b := 60) (by omega) (by omega))]
    by_cases hp : p < len
    · have hlt : ¬ nI len ≤ nI p := nI_ge hp (by omega)
      rw [h0, h1, if_neg hlt, h2, h3, if_neg hlt, e4m, if_pos rfl, lt1_mk, lt1_mk, st_cell (i := 0) (a := 1) (by omega), st_ne (i := 0) (j := 3) (a := 0) (b := 1) (by omega), h1, rd_nI (by omega) (by omega), ob_s, nI_1]
      have hR7 : TR len p (st V 0 3 (nI p)) (st Vm 0 5 (nI p)) := hR.far (st_cell (by omega)) (st_cell (by omega)) (st_ne (by omega)) (st_ne (by omega)) (st_ne (by omega)) (st_ne (by omega))
      obtain ⟨z, p', U1, V1, Vm1, f1, f2, f3, f4, f5, f6, ⟨g1, g2, g3, g4, g5⟩, ⟨k1, k2⟩⟩ := order_sim (U := U) hR7 hp (by rw [st_cell (by omega)]; exact hK)
      have f3' := f3 (fun U V => f_X2_runOn_L22 (m + t + 1) (nI (i + 1)) U V)
      rw [show st V 0 3 (nI p) 1 p = V 1 p from st_ne (by omega)] at f3'
      rw [f1, ob_s, lt1_mk]
      have r1 : ∀ a, a = 2 ∨ a = 3 ∨ a = 4 → st Vm1 0 6 (Vm1 0 6 + 1) a = Vm a := fun a ha => by
        rw [st_cell (by omega), k1 a ha, st_cell (by omega)]
      have r2 : ∀ j, j < 3 → st Vm1 0 6 (Vm1 0 6 + 1) 0 j = Vm 0 j := fun j hj => by
        rw [st_ne (by omega), k2 j (by omega) (by omega), st_ne (by omega)]
      have r3 : V1 0 3 = st Vm1 0 6 (Vm1 0 6 + 1) 0 5 := by
        rw [g3, st_eq, st_ne (by omega), k2 5 (by omega) (by omega)]
        exact st_eq.symm
      have rK : K U1 (st Vm1 0 6 (Vm1 0 6 + 1) 1) := by rw [st_cell (by omega)]; exact f6
      have r4 : st Vm1 0 6 (Vm1 0 6 + 1) 0 4 = z := by rw [st_ne (by omega)]; exact f2
      have hR1 : TR len p' V1 (st Vm1 0 6 (Vm1 0 6 + 1)) := f4.far rfl (st_cell (by omega)) rfl rfl (st_ne (by omega)) (st_ne (by omega))
      have rV : V1 1 = V 1 := by rw [g1]; exact st_cell (by omega)
      have rV0 : V1 0 0 = V 0 0 := by rw [g2]; exact st_ne (by omega)
      by_cases hz : z = 0
      · obtain ⟨q1, q2⟩ := g4 hz
        rw [if_pos hz] at f3'
        obtain ⟨U', V', Vm', s1, s2, s3, s4, s5, s6, s7, s8, s9, s10⟩ := ih (i + 1) p' m m' U1 V1 (st Vm1 0 6 (Vm1 0 6 + 1)) (by omega) (by omega) hR1 rK (by rw [q2, st_ne (by omega)]; exact e4) (by rw [r4, hz]) (by rw [q1, st_ne (by omega), e2, st_eq, k2 6 (by omega) (by omega), st_ne (by omega)])
        exact ⟨U', V', Vm', f3'.trans s1, s2, s3, s4, s5, s6, s7.trans rV, s8.trans (rV0.trans h0), fun a ha => (s9 a ha).trans (r1 a ha), fun j hj => (s10 j hj).trans (r2 j hj)⟩
      · rw [if_neg hz] at f3'
        refine ⟨U1, V1, st Vm1 0 6 (Vm1 0 6 + 1), f3', ?_, rK, by rw [r4]; exact g5 hz, fun e => absurd ((g5 hz).symm.trans e) hz, fun _ => r3, rV, rV0.trans h0, r1, r2⟩
        show (if (st Vm1 0 6 (Vm1 0 6 + 1) 0 2) ≤ (st Vm1 0 6 (Vm1 0 6 + 1) 0 3) then some (st Vm1 0 6 (Vm1 0 6 + 1)) else (if (st Vm1 0 6 (Vm1 0 6 + 1) 0 4) = 0 then _ else some (st Vm1 0 6 (Vm1 0 6 + 1)))) = _
        rw [r4, if_neg hz]
        by_cases c : (st Vm1 0 6 (Vm1 0 6 + 1) 0 2) ≤ (st Vm1 0 6 (Vm1 0 6 + 1) 0 3)
        · rw [if_pos c]
        · rw [if_neg c]
    · have hle : nI len ≤ nI p := nI_le (by omega) (by omega)
      rw [h0, h1, if_pos hle, h2, h3, if_pos hle]
      exact ⟨U, V, Vm, rfl, rfl, hK, by rw [e4, e4m], fun _ => e2, fun h => absurd e4 h, rfl, h0, fun _ _ => rfl, fun _ _ => rfl⟩
theorem run_sim {U v3 V : FV} (hK : K U (V 1)) (hT : Tx v3 V) : ∃ (U' v3' V' : FV), f_X2_runOn U v3 = some (U', v3') ∧ f_X4_tries V = some V' ∧ K U' (V' 1) ∧ v3' 0 4 = V' 0 4 ∧ (v3' 0 4 = 0 → v3' 0 2 = V' 0 6) ∧ (¬ v3' 0 4 = 0 → v3' 0 3 = V' 0 5) ∧ v3' 1 = v3 1 ∧ v3' 0 0 = v3 0 0 ∧ (∀ a, a = 2 ∨ a = 3 ∨ a = 4 → V' a = V a) ∧ (∀ j, j < 3 → V' 0 j = V 0 j) := by
  obtain ⟨len, t1, t2, t3, t4⟩ := hT
  obtain ⟨m, hm⟩ := FUEL_ge (k := 61) (by omega)
  obtain ⟨A, hA⟩ : ∃ A, A = st (st (st (st v3 0 2 0) 0 3 0) 0 4 0) 0 1 0 := ⟨_, rfl⟩
  obtain ⟨B, hB⟩ : ∃ B, B = st (st (st V 0 3 0) 0 6 0) 0 4 0 := ⟨_, rfl⟩
  have a1 : A 1 = v3 1 := by rw [hA]; rfl
  have a0 : A 0 0 = v3 0 0 := by rw [hA]; rfl
  have b1 : ∀ a, a = 1 ∨ a = 2 ∨ a = 3 ∨ a = 4 → B a = V a := fun a ha => by
    rw [hB, st_cell (by omega), st_cell (by omega), st_cell (by omega)]
  have b0 : ∀ j, j < 3 → B 0 j = V 0 j := fun j hj => by rw [hB, st_ne (by omega), st_ne (by omega), st_ne (by omega)]
  have hR : TR len 0 A B := by
    refine ⟨by omega, by rw [a0]; exact t2, by rw [b0 2 (by omega)]; exact t3, by rw [hA]; rfl, by rw [hB]; rfl, fun i hi => ?_⟩
    rw [a1, b1 4 (by omega)]
    exact (t4 i hi).1
  obtain ⟨U', V', Vm', s1, s2, s3, s4, s5, s6, s7, s8, s9, s10⟩ := run_loop 60 0 0 m m U A B (by omega) (by omega) hR (by rw [b1 1 (by omega)]; exact hK) (by rw [hA]; rfl) (by rw [hB]; rfl) (by rw [hA, hB]; rfl)
  refine ⟨U', V', Vm', ?_, ?_, s3, s4, s5, s6, s7.trans a1, s8.trans a0, fun a ha => (s9 a ha).trans (b1 a (by omega)), fun j hj => (s10 j hj).trans (b0 j hj)⟩
  · unfold f_X2_runOn
    rw [lt1_mk, lt1_mk, lt1_mk, lt1_mk, ← hA, hm]
    exact s1
  · unfold f_X4_tries
    rw [lt1_mk, lt1_mk, lt1_mk, ← hB, hm]
    exact s2
theorem sim_fault : Sim_fault Inv := by
  intro v1 v2 G v3 V h x1
  have h' := h
  obtain ⟨hK, hT, hH⟩ := h'
  obtain ⟨X, hXe⟩ : ∃ X, X = sB V (cpF 236 (V 1) (V 2)) := ⟨_, rfl⟩
  obtain ⟨U0, c1, c2⟩ := copyFrom_eq v2 v1
  have hX1 : X 1 = V 1 := by rw [hXe]; rfl
  have hX2 : X 2 = cpF 236 (V 1) (V 2) := by rw [hXe]; rfl
  have hX3 : X 3 = V 3 := by rw [hXe]; rfl
  have hX4 : X 4 = V 4 := by rw [hXe]; rfl
  have hX0 : ∀ j, X 0 j = V 0 j := fun j => by rw [hXe]; rfl
  have hK0 : K U0 (X 1) := by rw [hX1]; exact hK.congr c2 (fun _ _ => rfl)
  obtain ⟨U', w3, Y, r1, r2, r3, r4, r5, r6, r7, r8, r9, r10⟩ := run_sim hK0 (hT.congr rfl rfl hX4 (hX0 2))
  have hI : Inv v1 U' G w3 (sM Y (cpF 236 (Y 2) (Y 1))) := by
    have hB := h.back (w2 := U') (X := Y) (by rw [r9 2 (by omega), hX2]) (by rw [r9 3 (by omega), hX3]) (by rw [r9 4 (by omega), hX4]) (by rw [r10 0 (by omega), hX0]) (by rw [r10 1 (by omega), hX0]) (by rw [r10 2 (by omega), hX0])
    obtain ⟨q1, q2, q3⟩ := hB
    exact ⟨q1, q2.congr r8 r7 rfl rfl, q3⟩
  unfold f_X3_fault f_X4_fault
  have model : ∀ r : Int32, f_X4_in x1 0 1 = some 1 → ((if (Y 0 4) = 0 then some ((-4), sM Y (cpF 236 (Y 2) (Y 1))) else (if x1 = 0 then some (Y 0 5, sM Y (cpF 236 (Y 2) (Y 1))) else some (Y 0 4, sM Y (cpF 236 (Y 2) (Y 1))))) = some (r, sM Y (cpF 236 (Y 2) (Y 1)))) → ((f_X4_in x1 0 1).bind fun y1 => (if y1 = 0 then some ((-1), V) else ((f_X4_copy V).bind fun V3 => ((f_X4_tries V3).bind fun V4 => ((f_X4_back V4).bind fun V5 => (if (V5 0 4) = 0 then some ((-4), V5) else (if x1 = 0 then some (V5 0 5, V5) else some (V5 0 4, V5)))))))) = some (r, sM Y (cpF 236 (Y 2) (Y 1))) := by
    intro r e1 e2
    rw [e1, ob_s, if_neg (show ¬ (1 : Int32) = 0 by decide), copy_eq, ob_s, ← hXe, r2, ob_s, back_eq, ob_s]
    exact e2
  by_cases a1 : x1 = 0
  · rw [if_pos a1, c1, ob_s, r1, ob_s]
    show ∃ (r : Int32) (w1 : FV) (w2 : FV) (G1 : Nat → FV) (w3' : FV) (V1 : FV), (if (w3 0 4) = 0 then some ((-4), (v1, U', G, w3)) else (if x1 = 0 then some (w3 0 3, (v1, U', G, w3)) else some (w3 0 4, (v1, U', G, w3)))) = some (r, w1, w2, G1, w3') ∧ _
    have hin : f_X4_in x1 0 1 = some 1 := by rw [a1]; rfl
    by_cases z : w3 0 4 = 0
    · rw [if_pos z]
      exact ⟨-4, v1, U', G, w3, _, rfl, model _ hin (by rw [← r4, if_pos z]), hI⟩
    · rw [if_neg z, if_pos a1]
      exact ⟨w3 0 3, v1, U', G, w3, _, rfl, model _ hin (by rw [← r4, if_neg z, if_pos a1, r6 z]), hI⟩
  · rw [if_neg a1]
    by_cases a2 : x1 = 1
    · rw [if_pos a2, c1, ob_s, r1, ob_s]
      show ∃ (r : Int32) (w1 : FV) (w2 : FV) (G1 : Nat → FV) (w3' : FV) (V1 : FV), (if (w3 0 4) = 0 then some ((-4), (v1, U', G, w3)) else (if x1 = 0 then some (w3 0 3, (v1, U', G, w3)) else some (w3 0 4, (v1, U', G, w3)))) = some (r, w1, w2, G1, w3') ∧ _
      have hin : f_X4_in x1 0 1 = some 1 := by rw [a2]; rfl
      by_cases z : w3 0 4 = 0
      · rw [if_pos z]
        exact ⟨-4, v1, U', G, w3, _, rfl, model _ hin (by rw [← r4, if_pos z]), hI⟩
      · rw [if_neg z, if_neg a1]
        exact ⟨w3 0 4, v1, U', G, w3, _, rfl, model _ hin (by rw [← r4, if_neg z, if_neg a1]), hI⟩
    · have hin : f_X4_in x1 0 1 = some 0 := by
        rcases ix_caseN 2 (by omega) x1 with ⟨j, hj, rfl⟩ | h
        · rcases (show j = 0 ∨ j = 1 by omega) with rfl | rfl
          · exact absurd rfl a1
          · exact absurd rfl a2
        · exact inN_n (n := 2) (by omega) h
      rw [if_neg a2, hin, ob_s, if_pos rfl]
      exact ⟨-1, v1, v2, G, v3, V, rfl, rfl, h⟩
theorem sim_play : Sim_play Inv := by
  intro v1 v2 G v3 V h
  have h' := h
  obtain ⟨hK, hT, o, s, a, hH⟩ := h'
  obtain ⟨G', e1, hH1, hXs⟩ := note_eq hH hK
  obtain ⟨X, hXe⟩ : ∃ X, X = sB V (cpF 236 (V 1) (V 2)) := ⟨_, rfl⟩
  obtain ⟨U0, c1, c2⟩ := copyFrom_eq v2 v1
  have hX1 : X 1 = V 1 := by rw [hXe]; rfl
  have hX2 : X 2 = cpF 236 (V 1) (V 2) := by rw [hXe]; rfl
  have hX3 : X 3 = V 3 := by rw [hXe]; rfl
  have hX4 : X 4 = V 4 := by rw [hXe]; rfl
  have hX0 : ∀ j, X 0 j = V 0 j := fun j => by rw [hXe]; rfl
  have hK0 : K U0 (X 1) := by rw [hX1]; exact hK.congr c2 (fun _ _ => rfl)
  obtain ⟨U', w3, Y, r1, r2, r3, r4, r5, r6, r7, r8, r9, r10⟩ := run_sim hK0 (hT.congr rfl rfl hX4 (hX0 2))
  unfold f_X3_play f_X4_play
  rw [e1, ob_s, copy_eq, ob_s, ← hXe, r2, ob_s]
  show ∃ (r : Int32) (w1 : FV) (w2 : FV) (G1 : Nat → FV) (w3' : FV) (V1 : FV), ((f_X0_copyFrom v2 v1).bind fun v22 => ((f_X2_runOn v22 v3).bind fun t3 => (if (t3.2 0 4) = 0 then ((f_X0_copyFrom v1 t3.1).bind fun v15 => (b2 (f_X3_keepIfDone v15 t3.1 G' t3.2 (t3.2 0 2)) fun x6 t6 => some (x6, (t6.1, t6.2.1, t6.2.2.1, t6.2.2.2)))) else some ((-2), (v1, t3.1, G', t3.2))))) = some (r, w1, w2, G1, w3') ∧ _
  rw [c1, ob_s, r1, ob_s]
  show ∃ (r : Int32) (w1 : FV) (w2 : FV) (G1 : Nat → FV) (w3' : FV) (V1 : FV), (if (w3 0 4) = 0 then ((f_X0_copyFrom v1 U').bind fun v15 => (b2 (f_X3_keepIfDone v15 U' G' w3 (w3 0 2)) fun x6 t6 => some (x6, (t6.1, t6.2.1, t6.2.2.1, t6.2.2.2)))) else some ((-2), (v1, U', G', w3))) = some (r, w1, w2, G1, w3') ∧ (if (Y 0 4) = 0 then (b2 (f_X4_recorded Y (Y 0 6)) fun x4 V4 => some (x4, V4)) else ((f_X4_back Y).bind fun V5 => some ((-2), V5))) = some (r, V1) ∧ Inv w1 w2 G1 w3' V1
  rw [← r4]
  by_cases z : w3 0 4 = 0
  · obtain ⟨U1, d1, d2⟩ := copyFrom_eq v1 U'
    have y3 : Y 3 = V 3 := by rw [r9 3 (by omega), hX3]
    have y4 : Y 4 = V 4 := by rw [r9 4 (by omega), hX4]
    have y2 : Y 2 = cpF 236 (V 1) (V 2) := by rw [r9 2 (by omega), hX2]
    have y0 : ∀ j, j < 3 → Y 0 j = V 0 j := fun j hj => by rw [r10 j hj, hX0]
    obtain ⟨G1, V1, k1, k2, k3, k4, k5, k6⟩ := keep_eq (v1 := U1) (v2 := U') (v3 := w3) (V := Y) (hH1.congr (y0 0 (by omega)) (y0 1 (by omega)) y3) hXs (fun j hj => by rw [y2]; exact cpF_lt hj) (Y 0 6)
    rw [if_pos z, if_pos z, d1, ob_s, r5 z, k1, k2]
    exact ⟨Y 0 6, U1, U', G1, w3, V1, rfl, rfl, by rw [k4]; exact r3.congr d2 (fun _ _ => rfl), hT.congr r8 r7 (k5.trans y4) (k6.trans (y0 2 (by omega))), k3⟩
  · rw [if_neg z, if_neg z, back_eq, ob_s]
    have hB := h.back (w2 := U') (X := Y) (by rw [r9 2 (by omega), hX2]) (by rw [r9 3 (by omega), hX3]) (by rw [r9 4 (by omega), hX4]) (by rw [r10 0 (by omega), hX0]) (by rw [r10 1 (by omega), hX0]) (by rw [r10 2 (by omega), hX0])
    obtain ⟨q1, q2, q3⟩ := hB
    refine ⟨-2, v1, U', G', w3, _, rfl, rfl, q1, q2.congr r8 r7 rfl rfl, o, s, a, hH1.congr ?_ ?_ ?_⟩
    · exact (r10 0 (by omega)).trans (hX0 0)
    · exact (r10 1 (by omega)).trans (hX0 1)
    · exact (r9 3 (by omega)).trans hX3
theorem sim_all : SimAll Inv := ⟨sim_well, sim_drought, sim_droughtOf, sim_wellOf, sim_aboveAt, sim_draw, sim_request, sim_cancel, sim_requestAt, sim_tick, sim_set, sim_able, sim_gives, sim_possibleIn, sim_waterIn, sim_lenders, sim_count, sim_undo, sim_type, sim_clearText, sim_fault, sim_play⟩
