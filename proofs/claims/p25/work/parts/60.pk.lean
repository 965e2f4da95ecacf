/-! ===== settings, time, ticks ===== -/
theorem Rel.sc {n d q : Nat} {V V' : FV} {N N' : Nat → Int32} (h : Rel n d q V N) (hn : n ≤ 12) (hV : ∀ i j, (i ≠ 0 ∨ j ≠ 3) → i ≠ 4 → V' i j = V i j) (hN : ∀ j, 3 ≤ j → N' j = N j) (e0 : V' 0 3 = N' 0) (e1 : V' 4 0 = N' 1) (e2 : V' 4 1 = N' 2) : Rel n d q V' N' := by
  obtain ⟨⟨a1, a2, a3, a4, a5, a6, a7, a8, a9, a10⟩, hb, hc, he, hf, hg⟩ := h
  refine ⟨⟨?_, ?_, ?_, ?_, ?_, ?_, e0, e1, e2, ?_⟩, ?_, ?_, ?_, ?_, ?_⟩
  · rw [hV _ _ (by omega) (by omega)]; exact a1
  · rw [hN _ (by omega)]; exact a2
  · rw [hV _ _ (by omega) (by omega)]; exact a3
  · rw [hN _ (by omega)]; exact a4
  · rw [hV _ _ (by omega) (by omega)]; exact a5
  · rw [hN _ (by omega)]; exact a6
  · rw [hV _ _ (by omega) (by omega), hN _ (by omega)]; exact a10
  · intro w r hw hr; rw [hV _ _ (by omega) (by omega), hN _ (by omega)]; exact hb w r hw hr
  · intro w hw; rw [hV _ _ (by omega) (by omega), hc w hw]; exact bl_congr n (fun g hg => (hN _ (by omega)).symm)
  · intro w r x1 x2 x3 x4; rw [hV _ _ (by omega) (by omega)]; exact he w r x1 x2 x3 x4
  · intro i r hi hr; rw [hV _ _ (by omega) (by omega), hN _ (by omega)]; exact hf i r hi hr
  · intro i r hi hr; rw [hV _ _ (by omega) (by omega), hN _ (by omega)]; exact hg i r hi hr
theorem Wf.sc {n d q : Nat} {T T' : Int} {N N' : Nat → Int32} (h : Wf n d q T N) (hN : ∀ j, 3 ≤ j → N' j = N j) (e0 : 0 ≤ (N' 0).toInt ∧ (N' 0).toInt ≤ T') (e1 : 4 ≤ (N' 1).toInt ∧ (N' 1).toInt ≤ 100) (e2 : N' 2 = 0 ∨ N' 2 = 1) : Wf n d q T' N' := by
  obtain ⟨hbd, h0, h1, h2, hW, hD, hQ, hQ2, h6⟩ := h
  refine ⟨hbd, e0, e1, e2, ?_, ?_, ?_, ?_, ?_⟩
  · intro w hw; exact (hW w hw).congr (fun r hr => hN _ (by omega))
  · intro i hi; rw [hN _ (by omega)]; exact hD i hi
  · intro i hi; rw [hN _ (by omega)]; exact hQ i hi
  · intro i hi; rw [hN _ (by omega)]; exact hQ2 i hi
  · rw [hN _ (by omega), h6]; exact (ds_congr n (fun g r hg hr => hN _ (by omega))).symm
theorem Wf.T {n d q : Nat} {T T' : Int} {N : Nat → Int32} (h : Wf n d q T N) (hT : (N 0).toInt ≤ T') : Wf n d q T' N := h.sc (fun _ _ => rfl) ⟨h.2.1.1, hT⟩ h.2.2.1 h.2.2.2.1
theorem Ok.tm {n d q : Nat} {T : Int} {V : FV} {N : Nat → Int32} (hO : Ok n d q T V N) (hT : T ≤ 100000) : Ok n d q (T + 1) (st V 0 3 (V 0 3 + 1)) (upd N 0 (N 0 + 1)) := by
  have hb := hO.2.1
  have ht := hO.2.2.1
  have i1 : (1 : Int32).toInt = 1 := rfl
  have e : (N 0 + 1).toInt = (N 0).toInt + 1 := by rw [fb_addI (by omega) (by omega), i1]
  refine ⟨hO.1.sc hb.1 (fun i j h1 h2 => st_ne (by omega)) (fun j hj => upd_ne (by omega)) ?_ ?_ ?_, hO.2.sc (fun j hj => upd_ne (by omega)) ?_ ?_ ?_⟩
  · rw [st_eq, upd_eq, hO.1.1.2.2.2.2.2.2.1]
  · rw [st_ne (by omega), upd_ne (by omega)]; exact hO.1.1.2.2.2.2.2.2.2.1
  · rw [st_ne (by omega), upd_ne (by omega)]; exact hO.1.1.2.2.2.2.2.2.2.2.1
  · rw [upd_eq, e]; omega
  · rw [upd_ne (by omega)]; exact hO.2.2.2.1
  · rw [upd_ne (by omega)]; exact hO.2.2.2.2.1
theorem Ok.set0 {n d q : Nat} {T : Int} {V : FV} {N : Nat → Int32} (hO : Ok n d q T V N) {x : Int32} (hx : 4 ≤ x.toInt ∧ x.toInt ≤ 100) : Ok n d q T (st V 4 0 x) (upd N 1 x) := by
  have hb := hO.2.1
  refine ⟨⟨⟨?_, ?_, ?_, ?_, ?_, ?_, ?_, ?_, ?_, ?_⟩, ?_, ?_, ?_, ?_, ?_⟩, ?_⟩
  all_goals first | (rw [st_ne (by omega), upd_ne (by omega)]) | skip
  · exact hO.1.1.1
  · rw [upd_ne (by omega)]; exact hO.1.1.2.1
  · exact hO.1.1.2.2.1
  · rw [upd_ne (by omega)]; exact hO.1.1.2.2.2.1
  · exact hO.1.1.2.2.2.2.1
  · rw [upd_ne (by omega)]; exact hO.1.1.2.2.2.2.2.1
  · exact hO.1.1.2.2.2.2.2.2.1
  · rw [st_eq, upd_eq]
  · exact hO.1.1.2.2.2.2.2.2.2.2.1
  · exact hO.1.1.2.2.2.2.2.2.2.2.2
  · intro w r hw hr; rw [st_ne (by omega), upd_ne (by omega)]; exact hO.1.2.1 w r hw hr
  · intro w hw; rw [st_ne (by omega), hO.1.2.2.1 w hw]; exact bl_congr n (fun g hg => (upd_ne (by omega)).symm)
  · intro w r x1 x2 x3 x4; rw [st_ne (by omega)]; exact hO.1.2.2.2.1 w r x1 x2 x3 x4
  · intro i r hi hr; rw [st_ne (by omega), upd_ne (by omega)]; exact hO.1.2.2.2.2.1 i r hi hr
  · intro i r hi hr; rw [st_ne (by omega), upd_ne (by omega)]; exact hO.1.2.2.2.2.2 i r hi hr
  · exact hO.2.sc (fun j hj => upd_ne (by omega)) (by rw [upd_ne (by omega)]; exact hO.2.2.1) (by rw [upd_eq]; exact hx) (by rw [upd_ne (by omega)]; exact hO.2.2.2.2.1)
theorem Ok.set1 {n d q : Nat} {T : Int} {V : FV} {N : Nat → Int32} (hO : Ok n d q T V N) {x : Int32} (hx : x = 0 ∨ x = 1) : Ok n d q T (st V 4 1 x) (upd N 2 x) := by
  have hb := hO.2.1
  refine ⟨⟨⟨?_, ?_, ?_, ?_, ?_, ?_, ?_, ?_, ?_, ?_⟩, ?_, ?_, ?_, ?_, ?_⟩, ?_⟩
  all_goals first | (rw [st_ne (by omega), upd_ne (by omega)]) | skip
  · exact hO.1.1.1
  · rw [upd_ne (by omega)]; exact hO.1.1.2.1
  · exact hO.1.1.2.2.1
  · rw [upd_ne (by omega)]; exact hO.1.1.2.2.2.1
  · exact hO.1.1.2.2.2.2.1
  · rw [upd_ne (by omega)]; exact hO.1.1.2.2.2.2.2.1
  · exact hO.1.1.2.2.2.2.2.2.1
  · exact hO.1.1.2.2.2.2.2.2.2.1
  · rw [st_eq, upd_eq]
  · exact hO.1.1.2.2.2.2.2.2.2.2.2
  · intro w r hw hr; rw [st_ne (by omega), upd_ne (by omega)]; exact hO.1.2.1 w r hw hr
  · intro w hw; rw [st_ne (by omega), hO.1.2.2.1 w hw]; exact bl_congr n (fun g hg => (upd_ne (by omega)).symm)
  · intro w r x1 x2 x3 x4; rw [st_ne (by omega)]; exact hO.1.2.2.2.1 w r x1 x2 x3 x4
  · intro i r hi hr; rw [st_ne (by omega), upd_ne (by omega)]; exact hO.1.2.2.2.2.1 i r hi hr
  · intro i r hi hr; rw [st_ne (by omega), upd_ne (by omega)]; exact hO.1.2.2.2.2.2 i r hi hr
  · exact hO.2.sc (fun j hj => upd_ne (by omega)) (by rw [upd_ne (by omega)]; exact hO.2.2.1) (by rw [upd_ne (by omega)]; exact hO.2.2.2.1) (by rw [upd_eq]; exact hx)
theorem day_ne {n d q : Nat} {T : Int} {N : Nat → Int32} (h : Wf n d q T N) : ¬ N 1 = 0 := by
  intro e
  have := h.2.2.1
  rw [e, i_0] at this
  omega
def tod (N : Nat → Int32) : Int32 := N 0 - N 0 / N 1 * N 1
theorem tod_eq {n d q : Nat} {T : Int} {V : FV} {N : Nat → Int32} (hO : Ok n d q T V N) : f_X0_timeOfDay V = some (tod N) := by
  have h := hO.2.2.2.1
  unfold f_X0_timeOfDay tod
  rw [hO.1.1.2.2.2.2.2.2.2.1, hO.1.1.2.2.2.2.2.2.1, if_neg (by rw [i_le, i_0]; omega), nz_of (day_ne hO.2), ob_s]
theorem tick_sim {n d q : Nat} {T c : Int} (hT : T ≤ 100000) (hc0 : 0 ≤ c) (hc : c ≤ 100000000) {V Vm : FV} {N : Nat → Int32} (hO : Ok n d q T V N) (hC : Cl n c N) : ∃ (x : Int32) (V' : FV) (N' : Nat → Int32) (q' : Nat), f_X0_passTick V = some (x, V') ∧ f_X4_ticks (sM Vm N) = some (sM Vm N') ∧ Ok n d q' (T + 1) V' N' ∧ Cl n (c + 1000) N' ∧ N' 7 = N 7 + x ∧ N' 0 = N 0 + 1 := by
  obtain ⟨V1, N1, e1, e2, hO1, f1, g1⟩ := flow_sim (Vm := Vm) (hO.tm hT)
  have hC1 : Cl n c N1 := g1 c (hC.far (fun w hw => upd_ne (by omega)))
  have z0 : N1 0 = N 0 + 1 := by rw [f1 0 (by omega), upd_eq]
  have z7 : N1 7 = N 7 := by rw [f1 7 (by omega), upd_ne (by omega)]
  have up : ∀ {k : Nat} {a b : Int} {M : Nat → Int32}, a ≤ b → Cl k a M → Cl k b M := fun hab h w hw => ⟨(h w hw).1, Int.le_trans (h w hw).2 hab⟩
  unfold f_X0_passTick f_X4_ticks
  rw [lt1_mk, lt1_mk, sM_1, st_sM2, e1, e2, ob_s, ob_s, tod_eq hO1, ob_s, sM_1, nz_of (day_ne hO1.2), ob_s, ob_s, hO1.1.1.2.2.2.2.2.2.2.1]
  show ∃ (x : Int32) (V' : FV) (N' : Nat → Int32) (q' : Nat), _ = some (x, V') ∧ (if tod N1 = 0 then _ else (if tod N1 = N1 1 / 2 then _ else _)) = some (sM Vm N') ∧ _
  by_cases c1 : tod N1 = 0
  · rw [if_pos c1, if_pos c1]
    obtain ⟨s, V2, N2, e3, e4, hO2, f2, g2⟩ := lend_sim (Vm := Vm) hO1
    obtain ⟨x, V3, N3, q', e5, e6, hO3, z, g3, f3⟩ := serve_sim (Vm := Vm) hO2
    rw [e3, e4, b2_mk, b2_mk, e5, e6, b2_mk, ob_s]
    exact ⟨x, V3, N3, q', rfl, rfl, hO3, g3 _ (g2 c hc0 hc hC1), by rw [z, f2 7 (by omega), z7], by rw [f3 0 (by omega), f2 0 (by omega), z0]⟩
  · rw [if_neg c1, if_neg c1]
    by_cases c2 : tod N1 = N1 1 / 2
    · rw [if_pos c2, if_pos c2]
      obtain ⟨V2, N2, e3, e4, hO2, hC2, f2⟩ := pay_sim (c := c) (by omega) (Vm := Vm) hO1 hC1
      obtain ⟨x, V3, N3, q', e5, e6, hO3, z, g3, f3⟩ := serve_sim (Vm := Vm) hO2
      rw [e3, e4, ob_s, ob_s, e5, e6, b2_mk, ob_s]
      exact ⟨x, V3, N3, q', rfl, rfl, hO3, up (by omega) (g3 _ hC2), by rw [z, f2 7 (by omega), z7], by rw [f3 0 (by omega), f2 0 (by omega), z0]⟩
    · rw [if_neg c2, if_neg c2]
      obtain ⟨x, V3, N3, q', e5, e6, hO3, z, g3, f3⟩ := serve_sim (Vm := Vm) hO1
      rw [e5, e6, b2_mk, ob_s]
      exact ⟨x, V3, N3, q', rfl, rfl, hO3, up (by omega) (g3 _ hC1), by rw [z, z7], by rw [f3 0 (by omega), z0]⟩
theorem passes_loop {n d : Nat} {Vm : FV} {P : Nat} (hP : P ≤ 200) {s7 : Int32} : ∀ (t i m m' q : Nat) (T : Int) (V : FV) (N : Nat → Int32) (y : Int32), i + t = P → Ok n d q T V N → (N 0).toInt = T → T + t ≤ 50000 → Cl n (1000 * T) N → N 7 = s7 + y → ∃ (r : Int32) (V' : FV) (N' : Nat → Int32) (q' : Nat), f_X0_passTicks_L32 (m + t + 1) (nI P) y (nI i) V = some (r, V') ∧ f_X4_passes_L39 (m' + t + 1) (nI P) s7 (nI i) (sM Vm N) = some (r, sM Vm N') ∧ Ok n d q' (T + t) V' N' ∧ (N' 0).toInt = T + t ∧ Cl n (1000 * (T + t)) N' := by
  intro t
  induction t with
  | zero =>
    intro i m m' q T V N y h hO h0 hT hC h7
    have hi : i = P := by omega
    subst hi
    refine ⟨y, V, N, q, ?_, ?_, by rw [Int.natCast_zero, Int.add_zero]; exact hO, by rw [h0]; omega, by rw [Int.natCast_zero, Int.add_zero]; exact hC⟩
    · show (if nI i ≤ nI i then _ else _) = _
      rw [if_pos (nI_le (Nat.le_refl i) (by omega))]
    · show (if nI i ≤ nI i then some (N 7 - s7, sM Vm N) else _) = _
      rw [if_pos (nI_le (Nat.le_refl i) (by omega)), h7]
      congr 2
      grind
  | succ t ih =>
    intro i m m' q T V N y h hO h0 hT hC h7
    have hlo := hO.2.2.1
    obtain ⟨x, V1, N1, q1, e1, e2, hO1, hC1, z7, z0⟩ := tick_sim (Vm := Vm) (by omega) (by omega) (by omega) hO hC
    have i1 : (1 : Int32).toInt = 1 := rfl
    have t0 : (N1 0).toInt = T + 1 := by rw [z0, fb_addI (by omega) (by omega), h0, i1]
    obtain ⟨r, V2, N2, q2, f1, f2, hO2, f3, f4⟩ := ih (i + 1) m m' q1 (T + 1) V1 N1 (y + x) (by omega) hO1 t0 (by omega) (by rw [show 1000 * (T + 1) = 1000 * T + 1000 by omega]; exact hC1) (by rw [z7, h7, Int32.add_assoc])
    refine ⟨r, V2, N2, q2, ?_, ?_, by rw [show T + ((t + 1 : Nat) : Int) = T + 1 + (t : Int) by omega]; exact hO2, by rw [f3]; omega, by rw [show T + ((t + 1 : Nat) : Int) = T + 1 + (t : Int) by omega]; exact f4⟩
    · show (if nI P ≤ nI i then _ else (b2 (f_X0_passTick V) fun x5 V5 => (f_X0_passTicks_L32 (m + t + 1) (nI P) (y + x5) (nI i + 1) V5))) = _
      rw [if_neg (nI_ge (by omega) (by omega)), e1, b2_mk, nI_1, f1]
    · show (if nI P ≤ nI i then _ else ((f_X4_ticks (sM Vm N)).bind fun V5 => (f_X4_passes_L39 (m' + t + 1) (nI P) s7 (nI i + 1) V5))) = _
      rw [if_neg (nI_ge (by omega) (by omega)), e2, ob_s, nI_1, f2]
theorem passes_sim {n d q : Nat} {V Vm : FV} {N : Nat → Int32} (hO : Ok n d q 50000 V N) (hC : Cl n (1000 * (N 0).toInt) N) (p1 : Int32) : ∃ (r : Int32) (V' : FV) (N' : Nat → Int32) (q' : Nat), f_X0_passTicks V p1 = some (r, V') ∧ f_X4_passes (sM Vm N) p1 = some (r, sM Vm N') ∧ Ok n d q' 50000 V' N' ∧ Cl n (1000 * (N' 0).toInt) N' := by
  have hlo := hO.2.2.1
  have i1 : (1 : Int32).toInt = 1 := rfl
  have i200 : (200 : Int32).toInt = 200 := rfl
  have i5 : (50000 : Int32).toInt = 50000 := rfl
  unfold f_X0_passTicks f_X4_passes
  by_cases c1 : p1 < 1
  · rw [if_pos c1, in_n (Or.inl c1), ob_s, if_pos rfl]
    exact ⟨-1, V, N, q, rfl, rfl, hO, hC⟩
  · rw [if_neg c1]
    by_cases c2 : p1 ≤ 200
    · rw [if_pos c2, in_y c1 (by rw [i_lt]; rw [i_le] at c2; omega), ob_s, if_neg (show ¬ (1 : Int32) = 0 by decide), sM_1, hO.1.1.2.2.2.2.2.2.1]
      rw [i_lt, i1] at c1
      rw [i_le, i200] at c2
      have ep : p1 = nI p1.toInt.toNat := by rw [i_eq, nI_toInt (by omega)]; omega
      have es : (N 0 + p1).toInt = (N 0).toInt + p1.toInt := fb_addI (by omega) (by omega)
      by_cases c3 : N 0 + p1 ≤ 50000
      · rw [if_pos c3, if_pos c3]
        rw [i_le, es, i5] at c3
        obtain ⟨m, hm⟩ := FUEL_ge (k := p1.toInt.toNat + 1) (by omega)
        obtain ⟨r, V', N', q', e1, e2, e3, e4, e5⟩ := passes_loop (Vm := Vm) (P := p1.toInt.toNat) (by omega) (s7 := N 7) p1.toInt.toNat 0 m m q (N 0).toInt V N 0 (by omega) ⟨hO.1, hO.2.T (Int.le_refl _)⟩ rfl (by omega) hC (Int32.add_zero _).symm
        rw [hm]
        rw [← ep] at e1 e2
        exact ⟨r, V', N', q', e1, e2, ⟨e3.1, e3.2.T (by omega)⟩, by rw [e4]; exact e5⟩
      · rw [if_neg c3, if_neg c3]
        exact ⟨-3, V, N, q, rfl, rfl, hO, hC⟩
    · rw [if_neg c2, in_n (Or.inr (by rw [i_lt]; rw [i_le] at c2; omega)), ob_s, if_pos rfl]
      exact ⟨-1, V, N, q, rfl, rfl, hO, hC⟩
