/-! ===== what holds between calls ===== -/
def Tx (v3 V : FV) : Prop := ∃ len, len ≤ 60 ∧ v3 0 0 = nI len ∧ V 0 2 = nI len ∧ ∀ i, i < len → v3 1 i = V 4 i ∧ 32 ≤ (V 4 i).toInt ∧ (V 4 i).toInt ≤ 126
theorem Tx.congr {v3 w3 V V' : FV} (h : Tx v3 V) (e0 : w3 0 0 = v3 0 0) (e1 : w3 1 = v3 1) (e4 : V' 4 = V 4) (e2 : V' 0 2 = V 0 2) : Tx w3 V' := by
  obtain ⟨len, h1, h2, h3, h4⟩ := h
  refine ⟨len, h1, by rw [e0]; exact h2, by rw [e2]; exact h3, ?_⟩
  rw [e1, e4]
  exact h4
def Inv (v1 _v2 : FV) (G : Nat → FV) (v3 V : FV) : Prop := K v1 (V 1) ∧ Tx v3 V ∧ ∃ o s a, HsP o s a G V
theorem K.of {n d q : Nat} {c : Int} {v : FV} {N : Nat → Int32} (hO : Ok n d q 50000 v N) (hC : Cl n c N) (e : c = 1000 * (N 0).toInt) : K v N := ⟨n, d, q, hO, by rw [← e]; exact hC⟩
theorem wrap {opC opM : FV → Option (Int32 × FV)} (hop : ∀ (V Vm : FV) (N : Nat → Int32), K V N → ∃ (r : Int32) (V' : FV) (N' : Nat → Int32), opC V = some (r, V') ∧ opM (sM Vm N) = some (r, sM Vm N') ∧ K V' N') {v1 v2 v3 V : FV} {G : Nat → FV} (h : Inv v1 v2 G v3 V) :
    ∃ (r : Int32) (w1 : FV) (w2 : FV) (G1 : Nat → FV) (w3 : FV) (V1 : FV), ((f_X1_note G v1).bind fun t1 => (b2 (opC t1.2) fun x2 v12 => (b2 (f_X3_keepIfDone v12 v2 t1.1 v3 x2) fun x3 t3 => some (x3, (t3.1, t3.2.1, t3.2.2.1, t3.2.2.2))))) = some (r, w1, w2, G1, w3) ∧
      ((f_X4_copy V).bind fun V1 => (b2 (opM V1) fun x2 V2 => (b2 (f_X4_recorded V2 x2) fun x3 V3 => some (x3, V3)))) = some (r, V1) ∧ Inv w1 w2 G1 w3 V1 := by
  obtain ⟨hK, hT, o, s, a, hH⟩ := h
  obtain ⟨G', e1, hH1, hX⟩ := note_eq hH hK
  obtain ⟨X, hXe⟩ : ∃ X, X = sB V (cpF 236 (V 1) (V 2)) := ⟨_, rfl⟩
  obtain ⟨r, V', N', e2, e3, hK'⟩ := hop v1 X (V 1) hK
  rw [show sM X (V 1) = X by rw [hXe]; exact sM_self] at e3
  obtain ⟨G1, V1, e4, e5, hH2, f1, f4, f2⟩ := keep_eq (v1 := V') (v2 := v2) (v3 := v3) (V := sM X N') (hH1.congr (by rw [hXe]; rfl) (by rw [hXe]; rfl) (by rw [hXe]; rfl)) hX (fun j hj => by rw [hXe]; exact cpF_lt hj) r
  refine ⟨r, V', v2, G1, v3, V1, ?_, ?_, ?_, hT.congr rfl rfl (by rw [f4, hXe]; rfl) (by rw [f2, hXe]; rfl), hH2⟩
  · rw [e1, ob_s]
    show b2 (opC v1) (fun x2 v12 => b2 (f_X3_keepIfDone v12 v2 G' v3 x2) fun x3 t3 => some (x3, (t3.1, t3.2.1, t3.2.2.1, t3.2.2.2))) = _
    rw [e2, b2_mk, e4]
    rfl
  · rw [copy_eq, ob_s, ← hXe, e3, b2_mk, e5]
    rfl
  · rw [f1]; exact hK'
theorem sim_well : Sim_well Inv := by
  intro v1 v2 G v3 V h x1 x2 x3 x4
  refine wrap (opC := fun V => f_X0_addWell V x1 x2 x3 x4) (opM := fun V => f_X4_addsWell V x1 x2 x3 x4) ?_ h
  intro V Vm N ⟨n, d, q, hO, hC⟩
  obtain ⟨r, V', N', n', e1, e2, e3, e4, e5, -⟩ := well_sim (Vm := Vm) hO x1 x2 x3 x4
  have h0 := hO.2.2.1
  exact ⟨r, V', N', e1, e2, K.of e3 (e4 _ (by omega) hC) (by rw [e5])⟩
theorem sim_drought : Sim_drought Inv := by
  intro v1 v2 G v3 V h x1 x2 x3
  refine wrap (opC := fun V => f_X0_addDrought V x1 x2 x3) (opM := fun V => f_X4_addsDrought V x1 x2 x3) ?_ h
  intro V Vm N ⟨n, d, q, hO, hC⟩
  obtain ⟨r, V', N', n', e1, e2, e3, e4, e5, -⟩ := drought_sim (by decide) (Vm := Vm) hO x1 x2 x3
  exact ⟨r, V', N', e1, e2, K.of e3 (e4 _ hC) (by rw [e5])⟩
theorem sim_draw : Sim_draw Inv := by
  intro v1 v2 G v3 V h x1 x2
  refine wrap (opC := fun V => f_X0_takeDraw V x1 x2) (opM := fun V => f_X4_draws V x1 x2) ?_ h
  intro V Vm N ⟨n, d, q, hO, hC⟩
  obtain ⟨r, V', N', e1, e2, e3, e4, e5, -⟩ := draw_sim (Vm := Vm) hO x1 x2
  exact ⟨r, V', N', e1, e2, K.of e3 (e4 _ hC) (by rw [e5 0 (by omega)])⟩
theorem sim_request : Sim_request Inv := by
  intro v1 v2 G v3 V h x1 x2
  refine wrap (opC := fun V => f_X0_takeRequest V x1 x2) (opM := fun V => f_X4_requests V x1 x2) ?_ h
  intro V Vm N ⟨n, d, q, hO, hC⟩
  obtain ⟨r, V', N', n', e1, e2, e3, e4, e5, -⟩ := request_sim (Vm := Vm) hO x1 x2
  exact ⟨r, V', N', e1, e2, K.of e3 (e4 _ hC) (by rw [e5])⟩
theorem sim_tick : Sim_tick Inv := by
  intro v1 v2 G v3 V h x1
  refine wrap (opC := fun V => f_X0_passTicks V x1) (opM := fun V => f_X4_passes V x1) ?_ h
  intro V Vm N ⟨n, d, q, hO, hC⟩
  obtain ⟨r, V', N', q', e1, e2, e3, e4⟩ := passes_sim (Vm := Vm) hO hC x1
  exact ⟨r, V', N', e1, e2, K.of e3 e4 rfl⟩
theorem sim_droughtOf : Sim_droughtOf Inv := by
  intro v1 v2 G v3 V h x1 x2
  have h' := h
  obtain ⟨⟨n, d, q, hO, hC⟩, -⟩ := h'
  obtain ⟨r, e1, e2⟩ := droughtOf_sim (V2 := v2) (V3 := v3) (G := G) hO x1 x2
  exact ⟨r, e1, e2, h⟩
theorem sim_wellOf : Sim_wellOf Inv := by
  intro v1 v2 G v3 V h x1 x2
  have h' := h
  obtain ⟨⟨n, d, q, hO, hC⟩, -⟩ := h'
  obtain ⟨r, e1, e2⟩ := wellOf_sim (V2 := v2) (V3 := v3) (G := G) hO x1 x2
  exact ⟨r, e1, e2, h⟩
theorem sim_aboveAt : Sim_aboveAt Inv := by
  intro v1 v2 G v3 V h x1 x2
  have h' := h
  obtain ⟨⟨n, d, q, hO, hC⟩, -⟩ := h'
  obtain ⟨r, e1, e2⟩ := aboveAt_sim (V2 := v2) (V3 := v3) (G := G) hO x1 x2
  exact ⟨r, e1, e2, h⟩
theorem sim_requestAt : Sim_requestAt Inv := by
  intro v1 v2 G v3 V h x1 x2
  have h' := h
  obtain ⟨⟨n, d, q, hO, hC⟩, -⟩ := h'
  obtain ⟨r, e1, e2⟩ := requestAt_sim (V2 := v2) (V3 := v3) (G := G) hO x1 x2
  exact ⟨r, e1, e2, h⟩
theorem sim_count : Sim_count Inv := by
  intro v1 v2 G v3 V h x1
  have h' := h
  obtain ⟨⟨n, d, q, hO, hC⟩, ⟨len, t1, t2, t3, -⟩, o, s, a, hb, g0, g1, h0, -⟩ := h'
  obtain ⟨r, e1, e2⟩ := count_sim (V2 := v2) (V3 := v3) (G := G) hO (by rw [g1, h0]) (by rw [t2, t3]) x1
  exact ⟨r, e1, e2, h⟩
theorem sim_able : Sim_able Inv := by
  intro v1 v2 G v3 V h x1
  have h' := h
  obtain ⟨⟨n, d, q, hO, hC⟩, hT, hH⟩ := h'
  have hb := hO.2.1
  unfold f_X3_able f_X4_able
  rcases ix_case n hb.1 x1 with ⟨w0, hw, rfl⟩ | hno
  · obtain ⟨r, V', e1, e2, e3⟩ := able_sim hO hw
    rw [x0_isWell_y hO.1.1.1 hb.1 hw, x4_isWell_y hO.1.1.2.1 hb.1 hw, ob_s, ob_s, if_neg (show ¬ (1 : Int32) = 0 by decide), if_neg (show ¬ (1 : Int32) = 0 by decide), e1, e2, b2_mk, ob_s]
    exact ⟨r, V', v2, G, v3, rfl, rfl, ⟨n, d, q, e3, hC⟩, hT, hH⟩
  · rw [x0_isWell_n hO.1.1.1 hno, x4_isWell_n hO.1.1.2.1 hb.1 hno, ob_s, ob_s, if_pos rfl, if_pos rfl]
    exact ⟨-1, v1, v2, G, v3, rfl, rfl, h⟩
theorem sim_gives : Sim_gives Inv := by
  intro v1 v2 G v3 V h x1 x2 x3
  obtain ⟨⟨n, d, q, hO, hC⟩, hT, hH⟩ := h
  obtain ⟨r, V', e1, e2, e3⟩ := gives_sim (V2 := v2) (V3 := v3) (G := G) hO x1 x2 x3
  exact ⟨r, V', v2, G, v3, e1, e2, ⟨n, d, q, e3, hC⟩, hT, hH⟩
theorem sim_undo : Sim_undo Inv := by
  intro v1 v2 G v3 V h
  obtain ⟨hK, hT, o, s, a, hH⟩ := h
  obtain ⟨r, w1, G1, V1, e1, e2, e3, e4, e5, e6⟩ := undo_eq (v2 := v2) (v3 := v3) hH hK
  exact ⟨r, w1, v2, G1, v3, V1, e1, e2, e4, hT.congr rfl rfl e5 e6, e3⟩
theorem keep_neg {v1 v2 v3 : FV} {G : Nat → FV} {r : Int32} (h : r < 0) : f_X3_keepIfDone v1 v2 G v3 r = some (r, (v1, v2, G, v3)) := if_pos h
theorem sim_cancel : Sim_cancel Inv := by
  intro v1 v2 G v3 V h x1
  obtain ⟨hK, hT, o, s, a, hH⟩ := h
  obtain ⟨G', e1, hH1, hX⟩ := note_eq hH hK
  have hK2 := hK
  obtain ⟨n, d, q, hO, hC⟩ := hK2
  have hb := hO.2.1
  unfold f_X3_cancel f_X4_cancel
  rw [e1, ob_s, show f_X4_isPlace V x1 = f_X4_isPlace (sM V (V 1)) x1 by rw [sM_self]]
  show ∃ (r : Int32) (w1 : FV) (w2 : FV) (G1 : Nat → FV) (w3 : FV) (V1 : FV), b2 (f_X0_dropRequest v1 x1) (fun x2 v12 => b2 (f_X3_keepIfDone v12 v2 G' v3 x2) fun x3 t3 => some (x3, (t3.1, t3.2.1, t3.2.2.1, t3.2.2.2))) = some (r, w1, w2, G1, w3) ∧ _ = some (r, V1) ∧ Inv w1 w2 G1 w3 V1
  rcases place_case q hb.2.2 x1 with ⟨k, hk, rfl⟩ | hno
  · obtain ⟨V', N', e2, e3, e4, e5, e6⟩ := drop_sim hO hk
    obtain ⟨X, hXe⟩ : ∃ X, X = sB V (cpF 236 (V 1) (V 2)) := ⟨_, rfl⟩
    have eX : sM X (V 1) = X := by rw [hXe]; exact sM_self
    have eX1 : X 1 = V 1 := by rw [hXe]; rfl
    have e3' := e3 X
    rw [eX] at e3'
    obtain ⟨G1, V1, f4, f5, hH2, g1, g4, g2⟩ := keep_eq (v1 := V') (v2 := v2) (v3 := v3) (V := sM X N') (hH1.congr (by rw [hXe]; rfl) (by rw [hXe]; rfl) (by rw [hXe]; rfl)) hX (fun j hj => by rw [hXe]; exact cpF_lt hj) (V 1 (212 + 3 * k + 1))
    rw [x4_place_y hO.1 hb.2.2 hk, ob_s, if_neg (show ¬ (1 : Int32) = 0 by decide), e2, b2_mk, f4, copy_eq, ob_s, ← hXe, nI_sub1, ix_q, nI_1, eX1, rd_nI (by omega) (by omega), ob_s, e3', ob_s, f5]
    exact ⟨_, V', v2, G1, v3, V1, rfl, rfl, by rw [g1, sM_1]; exact K.of e4 (e5 _ hC) (by rw [e6]), hT.congr rfl rfl (by rw [g4, hXe]; rfl) (by rw [g2, hXe]; rfl), hH2⟩
  · have ed : f_X0_dropRequest v1 x1 = some (-1, v1) := by
      unfold f_X0_dropRequest
      rw [x0_place_n hO.1 hno, ob_s, if_pos rfl]
    rw [ed, b2_mk, keep_neg (by decide), x4_place_n hO.1 hno, ob_s, if_pos rfl]
    exact ⟨-1, v1, v2, G', v3, V, rfl, rfl, hK, hT, o, s, a, hH1⟩
theorem sim_set : Sim_set Inv := by
  intro v1 v2 G v3 V h x1 x2
  obtain ⟨hK, hT, o, s, a, hH⟩ := h
  obtain ⟨G', e1, hH1, hX⟩ := note_eq hH hK
  have hK2 := hK
  obtain ⟨n, d, q, hO, hC⟩ := hK2
  unfold f_X3_set
  rw [e1, ob_s]
  show ∃ (r : Int32) (w1 : FV) (w2 : FV) (G1 : Nat → FV) (w3 : FV) (V1 : FV), b2 (f_X0_changeSetting v1 x1 x2) (fun x2 v12 => b2 (f_X3_keepIfDone v12 v2 G' v3 x2) fun x3 t3 => some (x3, (t3.1, t3.2.1, t3.2.2.1, t3.2.2.2))) = some (r, w1, w2, G1, w3) ∧ _ = some (r, V1) ∧ Inv w1 w2 G1 w3 V1
  rcases set_case hO x1 x2 with ⟨f1, f2⟩ | ⟨r, V', N', f1, f2, f3, f4, f5⟩
  · rw [f1, b2_mk, keep_neg (by decide), f2]
    exact ⟨-1, v1, v2, G', v3, V, rfl, rfl, hK, hT, o, s, a, hH1⟩
  · obtain ⟨X, hXe⟩ : ∃ X, X = sB V (cpF 236 (V 1) (V 2)) := ⟨_, rfl⟩
    obtain ⟨G1, V1, e4, e5, hH2, g1, g4, g2⟩ := keep_eq (v1 := V') (v2 := v2) (v3 := v3) (V := sM X N') (hH1.congr (by rw [hXe]; rfl) (by rw [hXe]; rfl) (by rw [hXe]; rfl)) hX (fun j hj => by rw [hXe]; exact cpF_lt hj) r
    rw [f1, b2_mk, e4, f5 V X (by rw [hXe]; exact copy_eq) (by rw [hXe]; rfl), e5]
    exact ⟨r, V', v2, G1, v3, V1, rfl, rfl, by rw [g1, sM_1]; exact K.of f2 (f3 _ hC) (by rw [f4]), hT.congr rfl rfl (by rw [g4, hXe]; rfl) (by rw [g2, hXe]; rfl), hH2⟩
/-! the text -/
theorem chr_k : ∀ k, k < 127 → ((nI k).toUInt32 % 65536).toInt32 = nI k ∧ vp_nar .char (nI k) = nI k := by decide +kernel
theorem sim_type : Sim_type Inv := by
  intro v1 v2 G v3 V h x1
  have h' := h
  obtain ⟨hK, ⟨len, t1, t2, t3, t4⟩, o, s, a, hH⟩ := h'
  have i32 : (32 : Int32).toInt = 32 := rfl
  have i126 : (126 : Int32).toInt = 126 := rfl
  unfold f_X3_type f_X4_type
  by_cases c1 : x1 < 32
  · rw [if_pos c1, in_n (Or.inl c1), ob_s, if_pos rfl]
    exact ⟨-1, v1, v2, G, v3, V, rfl, rfl, h⟩
  · rw [if_neg c1]
    by_cases c2 : x1 ≤ 126
    · rw [if_pos c2, in_y c1 (by rw [i_lt]; rw [i_le] at c2; omega), ob_s, if_neg (show ¬ (1 : Int32) = 0 by decide)]
      rw [i_lt, i32] at c1
      rw [i_le, i126] at c2
      have ep : x1 = nI x1.toInt.toNat := by rw [i_eq, nI_toInt (by omega)]; omega
      obtain ⟨k, hk⟩ : ∃ k, k = x1.toInt.toNat := ⟨_, rfl⟩
      rw [← hk] at ep
      have hk2 : 32 ≤ k ∧ k < 127 := by omega
      clear hk
      subst ep
      obtain ⟨q1, q2⟩ := chr_k k hk2.2
      rw [lt1_mk, q1, t3]
      unfold f_X2_append
      rw [t2, q2]
      by_cases c3 : len = 60
      · subst c3
        rw [if_neg (show ¬ nI 60 < 60 by decide), b2_mk, if_pos rfl, if_pos (show nI 60 = 60 from rfl)]
        exact ⟨-3, v1, v2, G, v3, V, rfl, rfl, h⟩
      · rw [if_pos (show nI len < 60 by rw [i_lt, nI_toInt (by omega), show (60 : Int32).toInt = 60 from rfl]; omega), wr_nI (by omega) (by omega), ob_s, lt1_mk, b2_mk, if_neg (show ¬ (1 : Int32) = 0 by decide), if_neg (show ¬ nI len = 60 from fun e => c3 ((nI_eq (b := 60) (by omega) (by omega)).mp e)), wr_nI (by omega) (by omega), ob_s, lt1_mk]
        rw [st_ne (i := 1) (a := 0) (by omega), t2, st_ne (i := 4) (a := 0) (by omega), t3, nI_1]
        have n4 : st (st V 4 len (nI k)) 0 2 (nI (len + 1)) 4 = upd (V 4) len (nI k) := rfl
        have n1 : st (st v3 1 len (nI k)) 0 0 (nI (len + 1)) 1 = upd (v3 1) len (nI k) := rfl
        refine ⟨nI (len + 1), v1, v2, G, _, _, rfl, rfl, hK, ⟨len + 1, by omega, st_eq, st_eq, ?_⟩, o, s, a, hH.congr (st_ne (by omega)) (st_ne (by omega)) rfl⟩
        intro i hi
        rw [n4, n1, upd_at, upd_at]
        by_cases ci : i = len
        · rw [if_pos ci, if_pos ci, nI_toInt (by omega)]
          exact ⟨rfl, by omega, by omega⟩
        · rw [if_neg ci, if_neg ci]
          exact t4 i (by omega)
    · rw [if_neg c2, in_n (Or.inr (by rw [i_lt]; rw [i_le] at c2; omega)), ob_s, if_pos rfl]
      exact ⟨-1, v1, v2, G, v3, V, rfl, rfl, h⟩
theorem sim_clearText : Sim_clearText Inv := by
  intro v1 v2 G v3 V h
  obtain ⟨hK, ⟨len, t1, t2, t3, t4⟩, o, s, a, hH⟩ := h
  refine ⟨nI len, v1, v2, G, st v3 0 0 0, st V 0 2 0, ?_, ?_, hK, ⟨0, by omega, st_eq, st_eq, fun i hi => absurd hi (by omega)⟩, o, s, a, hH.congr (st_ne (by omega)) (st_ne (by omega)) rfl⟩
  · unfold f_X3_clearText
    rw [lt1_mk, t2]
  · unfold f_X4_clearText
    rw [lt1_mk, t3]
