/-! ===== a tick, ticks ===== -/
def ZV : FV := fun _ _ => 0
/-- the row behind a tick -/
noncomputable def tkN (N : NN) : NN := match f_X4_ticks (sM ZV N) with
  | some X => X 1
  | none => N
theorem tkN_of {N N' : NN} (h : f_X4_ticks (sM ZV N) = some (sM ZV N')) : tkN N = N' := by
  unfold tkN
  rw [h]
  rfl
theorem serveL_02 : ∀ (f : Nat) (y1 y2 y3 y4 : Int32) (V : FV) (r : Int32) (V' : FV), f_X0_serveWaiting_L12 f y1 y2 y3 y4 V = some (r, V') → V' 0 2 = y3 - r := by
  intro f
  induction f with
  | zero => intro y1 y2 y3 y4 V r V' h; cases h
  | succ f ih =>
    intro y1 y2 y3 y4 V r V' h
    unfold f_X0_serveWaiting_L12 at h
    by_cases c1 : y3 ≤ y4
    · replace h := ite_t c1 h
      obtain ⟨V2, rfl, h⟩ := lt1_some h
      obtain ⟨V3, rfl, h⟩ := lt1_some h
      cases h
      rw [st_ne (by omega), st_eq]
      grind
    · replace h := ite_f c1 h
      obtain ⟨x4, -, -, h⟩ := rd_some h
      obtain ⟨x5, -, -, h⟩ := rd_some h
      by_cases c2 : y2 = 0
      · replace h := ite_t c2 h
        by_cases c3 : (V 4 1) = 1
        · replace h := ite_t c3 h
          obtain ⟨V9, e9, h⟩ := b1_some h
          exact ih _ _ _ _ _ _ _ h
        · replace h := ite_f c3 h
          obtain ⟨V9, e9, h⟩ := b1_some h
          exact ih _ _ _ _ _ _ _ h
      · replace h := ite_f c2 h
        obtain ⟨x10, V10, e10, h⟩ := b2_some h
        by_cases c3 : x10 = x5
        · replace h := ite_t c3 h
          obtain ⟨x15, V15, e15, h⟩ := b2_some h
          exact ih _ _ _ _ _ _ _ h
        · replace h := ite_f c3 h
          by_cases c4 : (V10 4 1) = 1
          · replace h := ite_t c4 h
            obtain ⟨V9, e9, h⟩ := b1_some h
            exact ih _ _ _ _ _ _ _ h
          · replace h := ite_f c4 h
            obtain ⟨V9, e9, h⟩ := b1_some h
            exact ih _ _ _ _ _ _ _ h
theorem tick_simX {n d q : Nat} {T c : Int} (hT : T ≤ 100000) (hc0 : 0 ≤ c) (hc : c ≤ 100000000) {V Vm : FV} {N : NN} (hO : Ok n d q T V N) (hC : Cl n c N) (hRQ : RQ q N) : ∃ (x : Int32) (V' : FV) (N' : NN) (q' : Nat), f_X0_passTick V = some (x, V') ∧ f_X4_ticks (sM Vm N) = some (sM Vm N') ∧ RQ q' N' ∧ N' 5 = nI q' ∧ FR n q' N' ∧ q' ≤ q ∧ V' 0 2 = nI q - x := by
  obtain ⟨V1, N1, e1, e2, hO1, f1, g1⟩ := flow_sim (Vm := Vm) (hO.tm hT)
  have hC1 : Cl n c N1 := g1 c (hC.far (fun w hw => upd_ne (by omega)))
  have hlo := hO.2.2.1
  have i1 : (1 : Int32).toInt = 1 := rfl
  have z0 : (N1 0).toInt = (N 0).toInt + 1 := by rw [f1 0 (by omega), upd_eq, fb_addI (by omega) (by omega), i1]
  have hR1 : RQ q N1 := hRQ.congr (by omega) (fun i hi => by rw [f1 _ (by omega), upd_ne (by omega)])
  have sv2 : ∀ {W W' : FV} {x : Int32}, W 0 2 = nI q → f_X0_serveWaiting W = some (x, W') → W' 0 2 = nI q - x := by
    intro W W' x hW h
    have := (serveL_02 _ _ _ _ _ _ _ _ h)
    rw [this, hW]
  unfold f_X0_passTick f_X4_ticks
  rw [lt1_mk, lt1_mk, sM_1, st_sM2, e1, e2, ob_s, ob_s, tod_eq hO1, ob_s, sM_1, nz_of (day_ne hO1.2), ob_s, ob_s, hO1.1.1.2.2.2.2.2.2.2.1]
  show ∃ (x : Int32) (V' : FV) (N' : NN) (q' : Nat), _ = some (x, V') ∧ (if tod N1 = 0 then _ else (if tod N1 = N1 1 / 2 then _ else _)) = some (sM Vm N') ∧ _
  by_cases c1 : tod N1 = 0
  · rw [if_pos c1, if_pos c1]
    obtain ⟨s, V2, N2, e3, e4, hO2, f2, g2⟩ := lend_sim (Vm := Vm) hO1
    obtain ⟨x, V3, N3, q', e5, e6, a1, a2, a3, a4⟩ := serve_simX (Vm := Vm) hO2 (hR1.congr (by rw [f2 0 (by omega)]; exact Int.le_refl _) (fun i hi => f2 _ (by omega)))
    rw [e3, e4, b2_mk, b2_mk, e5, e6, b2_mk, ob_s]
    exact ⟨x, V3, N3, q', rfl, rfl, a1, a2, a3, a4, sv2 hO2.1.1.2.2.2.2.1 e5⟩
  · rw [if_neg c1, if_neg c1]
    by_cases c2 : tod N1 = N1 1 / 2
    · rw [if_pos c2, if_pos c2]
      obtain ⟨V2, N2, e3, e4, hO2, hC2, f2⟩ := pay_sim (c := c) (by omega) (Vm := Vm) hO1 hC1
      obtain ⟨x, V3, N3, q', e5, e6, a1, a2, a3, a4⟩ := serve_simX (Vm := Vm) hO2 (hR1.congr (by rw [f2 0 (by omega)]; exact Int.le_refl _) (fun i hi => f2 _ (by omega)))
      rw [e3, e4, ob_s, ob_s, e5, e6, b2_mk, ob_s]
      exact ⟨x, V3, N3, q', rfl, rfl, a1, a2, a3, a4, sv2 hO2.1.1.2.2.2.2.1 e5⟩
    · rw [if_neg c2, if_neg c2]
      obtain ⟨x, V3, N3, q', e5, e6, a1, a2, a3, a4⟩ := serve_simX (Vm := Vm) hO1 hR1
      rw [e5, e6, b2_mk, ob_s]
      exact ⟨x, V3, N3, q', rfl, rfl, a1, a2, a3, a4, sv2 hO1.1.1.2.2.2.2.1 e5⟩
/-- what a tick does to the numbers of a field -/
def TF (k : Nat) (N M : NN) : Prop := (M 0).toInt = (N 0).toInt + k ∧ nQ M ≤ nQ N ∧ M 7 = N 7 + nI (nQ N - nQ M) ∧ nW M = nW N ∧ nD M = nD N
theorem TF.rf {N : NN} : TF 0 N N := ⟨by omega, Nat.le_refl _, by rw [Nat.sub_self]; exact (Int32.add_zero _).symm, rfl, rfl⟩
theorem TF.tr {i j : Nat} {A B C : NN} (h1 : TF i A B) (h2 : TF j B C) : TF (i + j) A C := by
  obtain ⟨a1, a2, a3, a4, a5⟩ := h1
  obtain ⟨b1, b2, b3, b4, b5⟩ := h2
  refine ⟨by omega, by omega, ?_, b4.trans a4, b5.trans a5⟩
  rw [b3, a3, Int32.add_assoc, nI_add]
  congr 2
  omega
theorem tick_K2 {V : FV} {N : NN} (h : K2 V N) (ht : (N 0).toInt < 50000) : ∃ V', f_X0_passTick V = some (nI (nQ N - nQ (tkN N)), V') ∧ K2 V' (tkN N) ∧ TF 1 N (tkN N) ∧ FR (nW (tkN N)) (nQ (tkN N)) (tkN N) := by
  obtain ⟨n, d, q, en, ed, eq, hR, hW, hC, hS, hQ⟩ := h.get
  have hb := hW.1
  have hlo := hW.2.1
  have i1 : (1 : Int32).toInt = 1 := rfl
  obtain ⟨x, V', N', q', e1, e2, hO1, hC1, z7, z0⟩ := tick_sim (Vm := ZV) (T := (N 0).toInt) (c := 1000 * (N 0).toInt) (by omega) (by omega) (by omega) ⟨hR, hW.T (Int.le_refl _)⟩ hC
  obtain ⟨x2, V2, N2, q2, f1, f2, a1, a2, a3, a4, a5⟩ := tick_simX (Vm := ZV) (T := (N 0).toInt) (c := 1000 * (N 0).toInt) (by omega) (by omega) (by omega) ⟨hR, hW.T (Int.le_refl _)⟩ hC hQ
  have ex : x2 = x := some_fst (f1.symm.trans e1)
  have eV : V2 = V' := some_snd (f1.symm.trans e1)
  have eN : N2 = N' := sM_inj (some_one (f2.symm.trans e2))
  subst ex; subst eV; subst eN
  have eq' : q2 = q' := (nI_eq (by omega) (by have := hO1.2.1; omega)).mp (a2.symm.trans hO1.1.1.2.2.2.2.2.1)
  subst eq'
  have t0 : (N2 0).toInt = (N 0).toInt + 1 := by rw [z0, fb_addI (by omega) (by omega), i1]
  have hb' := hO1.2.1
  have ex2 : x2 = nI (q - q2) := by
    have h5 : nI q2 = nI q - x2 := hO1.1.1.2.2.2.2.1.symm.trans a5
    rw [← nI_subN a4, h5]
    grind
  have hSV : SV V2 := tick_SV e1 ((SS_iff hR hb.1).mpr hS)
  have hK : K2 V2 N2 := K2.of (n := n) (d := d) (q := q2) hO1.1 ⟨hO1.2.T (by omega), by rw [t0, show 1000 * ((N 0).toInt + 1) = 1000 * (N 0).toInt + 1000 by omega]; exact hC1, (SS_iff hO1.1 hb'.1).mp hSV, a1⟩
  have w3 := nW_of hO1.1.1.2.1 (by omega)
  have w4 := nD_of hO1.1.1.2.2.2.1 (by omega)
  have w5 := nQ_of hO1.1.1.2.2.2.2.2.1 (by omega)
  rw [tkN_of e2]
  refine ⟨V2, ?_, hK, ⟨by omega, by omega, ?_, by omega, by omega⟩, by rw [w3, w5]; exact a3⟩
  · rw [e1, ex2, w5, eq]
  · rw [z7, ex2, w5, eq]
noncomputable def itN : Nat → NN → NN
  | 0, N => N
  | k + 1, N => itN k (tkN N)
theorem itN_s (k : Nat) : ∀ N, itN (k + 1) N = tkN (itN k N) := by
  induction k with
  | zero => intro N; rfl
  | succ k ih => intro N; exact ih (tkN N)
theorem itN_add (j : Nat) : ∀ k N, itN (j + k) N = itN k (itN j N) := by
  induction j with
  | zero => intro k N; rw [Nat.zero_add]; rfl
  | succ j ih => intro k N; rw [show j + 1 + k = (j + k) + 1 by omega]; exact ih k (tkN N)
theorem passL_K2 {P : Nat} (hP : P ≤ 200) : ∀ (t i m : Nat) (V : FV) (N : NN) (y : Int32), i + t = P → K2 V N → (N 0).toInt + t ≤ 50000 → ∃ V', f_X0_passTicks_L32 (m + t + 1) (nI P) y (nI i) V = some (y + nI (nQ N - nQ (itN t N)), V') ∧ K2 V' (itN t N) ∧ TF t N (itN t N) ∧ (0 < t → FR (nW (itN t N)) (nQ (itN t N)) (itN t N)) := by
  intro t
  induction t with
  | zero =>
    intro i m V N y h hK hT
    have hi : i = P := by omega
    subst hi
    refine ⟨V, ?_, hK, TF.rf, fun h => absurd h (by omega)⟩
    show (if nI i ≤ nI i then _ else _) = _
    rw [if_pos (nI_le (Nat.le_refl i) (by omega))]
    show some (y, V) = some (y + nI (nQ N - nQ N), V)
    rw [Nat.sub_self, show nI 0 = (0 : Int32) from rfl, Int32.add_zero]
  | succ t ih =>
    intro i m V N y h hK hT
    obtain ⟨V1, e1, hK1, hT1, hF1⟩ := tick_K2 hK (by omega)
    obtain ⟨V2, e2, hK2, hT2, hF2⟩ := ih (i + 1) m V1 (tkN N) (y + nI (nQ N - nQ (tkN N))) (by omega) hK1 (by rw [hT1.1]; omega)
    have hT3 : TF (t + 1) N (itN (t + 1) N) := by
      have q := hT1.tr hT2
      rw [Nat.add_comm 1 t] at q
      exact q
    refine ⟨V2, ?_, hK2, hT3, fun _ => ?_⟩
    · show (if nI P ≤ nI i then _ else (b2 (f_X0_passTick V) fun x5 V5 => (f_X0_passTicks_L32 (m + t + 1) (nI P) (y + x5) (nI i + 1) V5))) = _
      rw [if_neg (nI_ge (by omega) (by omega)), e1, b2_mk, nI_1, e2, Int32.add_assoc, nI_add]
      have a := hT1.2.1
      have b := hT2.2.1
      show some (y + nI (nQ N - nQ (tkN N) + (nQ (tkN N) - nQ (itN t (tkN N)))), V2) = some (y + nI (nQ N - nQ (itN t (tkN N))), V2)
      rw [show nQ N - nQ (tkN N) + (nQ (tkN N) - nQ (itN t (tkN N))) = nQ N - nQ (itN t (tkN N)) by omega]
    · rcases Nat.eq_zero_or_pos t with hz | hz
      · subst hz
        exact hF1
      · exact hF2 hz
theorem pass_K2 {P : Nat} (hP0 : 1 ≤ P) (hP : P ≤ 200) {V : FV} {N : NN} (hK : K2 V N) (hT : (N 0).toInt + P ≤ 50000) : ∃ V', f_X0_passTicks V (nI P) = some (nI (nQ N - nQ (itN P N)), V') ∧ K2 V' (itN P N) ∧ TF P N (itN P N) ∧ FR (nW (itN P N)) (nQ (itN P N)) (itN P N) := by
  obtain ⟨m, hm⟩ := FUEL_ge (k := P + 1) (by omega)
  obtain ⟨V', e, h1, h2, h3⟩ := passL_K2 hP P 0 m V N 0 (by omega) hK hT
  refine ⟨V', ?_, h1, h2, h3 hP0⟩
  have hlo := hK.2.1.2.1
  have i1 : (1 : Int32).toInt = 1 := rfl
  have i200 : (200 : Int32).toInt = 200 := rfl
  have i5 : (50000 : Int32).toInt = 50000 := rfl
  have tP := nI_toInt (n := P) (by omega)
  unfold f_X0_passTicks
  rw [if_neg (by rw [i_lt, i1, tP]; omega), if_pos (by rw [i_le, i200, tP]; omega), hK.1.1.2.2.2.2.2.2.1, if_pos (by rw [i_le, i5, fb_addI (by omega) (by omega), tP]; omega), hm]
  rw [Int32.zero_add] at e
  exact e
