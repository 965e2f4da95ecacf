/-! ===== serving the row, cancelling, ticks ===== -/
theorem nI_subN {a b : Nat} (h : b ≤ a) : nI a - nI b = nI (a - b) := by
  have : nI (a - b) + nI b = nI a := by rw [nI_add]; congr 1; omega
  rw [← this, Int32.add_sub_cancel]
theorem J.sS {n d q : Nat} {T : Int} {k p : Nat} {x : Int32} {V : FV} {M N S : Nat → Int32} (h : J n d q T k p x V M N) : J n d q T k p x (sS V S) M N := ⟨⟨h.1.1.sS, h.1.2⟩, h.2⟩
theorem J.pass {n d q : Nat} {T : Int} {k p : Nat} {x : Int32} {V : FV} {M N : Nat → Int32} (h : J n d q T k p x V M N) : V 4 1 = N 2 := by
  rw [h.2.2.1 2 (by omega) (by omega) (by omega)]
  exact h.1.1.1.2.2.2.2.2.2.2.2.1
theorem serve_mv {n d q : Nat} {T : Int} {N : Nat → Int32} (hz : ¬ N 2 = 1) : ∀ (t k p m : Nat) (V : FV) (M : Nat → Int32), p + t = q → J n d q T k p (nI (p - k)) V M N → ∃ (V' : FV) (q' : Nat), f_X0_serveWaiting_L12 (m + t + 1) (nI k) 0 (nI q) (nI p) V = some (nI (p - k), V') ∧ Ok n d q' T V' N := by
  intro t
  induction t with
  | zero =>
    intro k p m V M ht h
    have hq : p = q := by omega
    subst hq
    have hb := h.1.2.1
    have hkp := h.2.1
    refine ⟨_, k, ?_, h.fin⟩
    show (if nI p ≤ nI p then (lt1 (st V 0 2 (nI k)) fun V2 => (lt1 (st V2 0 4 ((V2 0 4) + (nI p - nI k))) fun V3 => some (nI p - nI k, V3))) else _) = _
    rw [if_pos (nI_le (Nat.le_refl p) (by omega)), lt1_mk, lt1_mk, nI_subN hkp.1, st_ne (i := 0) (j := 2) (a := 0) (b := 4) (by omega)]
  | succ t ih =>
    intro k p m V M ht h
    have hb := h.1.2.1
    have hkp := h.2.1
    have hm := h.mv (by omega)
    rw [show p - k = p + 1 - (k + 1) by omega] at hm
    obtain ⟨V', q', e1, e2⟩ := ih (k + 1) (p + 1) m _ _ (by omega) hm
    refine ⟨V', q', ?_, e2⟩
    show (if nI q ≤ nI p then _ else ((rd 8 (V 22) (nI p)).bind fun x4 => ((rd 8 (V 23) (nI p)).bind fun x5 => (if (V 4 1) = 1 then _ else ((f_X0_moveRequest V (nI p) (nI k)).bind fun V8 => (f_X0_serveWaiting_L12 (m + t + 1) (nI k + 1) 0 (nI q) (nI p + 1) V8)))))) = _
    rw [if_neg (nI_ge (by omega) (by omega)), rd_nI (by omega) (by omega), ob_s, rd_nI (by omega) (by omega), ob_s, h.pass, if_neg hz, move_eq (by omega) (by omega), ob_s, nI_1, nI_1, e1]
    rw [show p + 1 - (k + 1) = p - k by omega]
theorem serve_loop {n d q : Nat} {T : Int} {Vm : FV} : ∀ (t k p m m' : Nat) (V : FV) (M N : Nat → Int32), p + t = q → J n d q T k p (nI (p - k)) V M N → ∃ (x : Int32) (V' : FV) (N' : Nat → Int32) (q' : Nat), f_X0_serveWaiting_L12 (m + t + 1) (nI k) 1 (nI q) (nI p) V = some (x, V') ∧ f_X4_looks_L4 (m' + t + 1) (nI k) 1 (sM Vm N) = some (sM Vm N') ∧ Ok n d q' T V' N' ∧ N' 7 = M 7 + x ∧ (∀ c, Cl n c N → Cl n c N') ∧ (∀ j, j < 5 → N' j = N j) := by
  intro t
  induction t with
  | zero =>
    intro k p m m' V M N ht h
    have hq : p = q := by omega
    subst hq
    have hb := h.1.2.1
    have hkp := h.2.1
    refine ⟨nI (p - k), _, N, k, ?_, ?_, h.fin, h.2.2.2.2.1, fun _ h => h, fun _ _ => rfl⟩
    · show (if nI p ≤ nI p then (lt1 (st V 0 2 (nI k)) fun V2 => (lt1 (st V2 0 4 ((V2 0 4) + (nI p - nI k))) fun V3 => some (nI p - nI k, V3))) else _) = _
      rw [if_pos (nI_le (Nat.le_refl p) (by omega)), lt1_mk, lt1_mk, nI_subN hkp.1, st_ne (i := 0) (j := 2) (a := 0) (b := 4) (by omega)]
    · show (if (N 5) ≤ nI k then _ else _) = _
      rw [h.2.2.2.1, if_pos (nI_le (by omega) (by omega))]
  | succ t ih =>
    intro k p m m' V M N ht h
    have hb := h.1.2.1
    have hkp := h.2.1
    have hpq : p < q := by omega
    have hWf := h.wf
    have e22 : V 22 p = M (212 + 3 * p) := h.1.1.2.2.2.2.2 p 0 hpq (by omega)
    have e23 : V 23 p = M (212 + 3 * p + 1) := h.1.1.2.2.2.2.2 p 1 hpq (by omega)
    have n0 : N (212 + 3 * k) = M (212 + 3 * p) := h.2.2.2.2.2.2 0 0 (by omega) (by omega)
    have n1 : N (212 + 3 * k + 1) = M (212 + 3 * p + 1) := h.2.2.2.2.2.2 0 1 (by omega) (by omega)
    obtain ⟨w0, hw, ew⟩ := h.1.2.2.2.2.2.2.2.1 p hpq
    have hbb := h.1.2.2.2.2.2.2.2.2.1 p hpq
    have e5 := h.2.2.2.1
    have he : ∀ j, j < 152 → j ≠ 5 → j ≠ 7 → N j = M j := fun j h1 h2 h3 => h.2.2.1 j (by omega) h2 h3
    have hab := abl_congr (w0 := w0) hb.1 hWf.2.2.2.2.1 he 12 w0 hw
    obtain ⟨a, ha, hai⟩ := ableOf_eq (V := sM Vm N) (N := N) rfl hWf hw
    have hs := share_toInt h.1 hw (b := M (212 + 3 * p + 1)) (by omega)
    show ∃ (x : Int32) (V' : FV) (N' : Nat → Int32) (q' : Nat), (if nI q ≤ nI p then _ else ((rd 8 (V 22) (nI p)).bind fun x4 => ((rd 8 (V 23) (nI p)).bind fun x5 => (b2 (f_X0_shareOut V x4 x5) fun x10 V10 => (if x10 = x5 then (b2 (f_X0_pourShares V10 x4) fun x15 V15 => (f_X0_serveWaiting_L12 (m + t + 1) (nI k) 1 (nI q) (nI p + 1) V15)) else (if (V10 4 1) = 1 then ((f_X0_moveRequest V10 (nI p) (nI k)).bind fun V14 => (f_X0_serveWaiting_L12 (m + t + 1) (nI k + 1) 1 (nI q) (nI p + 1) V14)) else ((f_X0_moveRequest V10 (nI p) (nI k)).bind fun V13 => (f_X0_serveWaiting_L12 (m + t + 1) (nI k + 1) 0 (nI q) (nI p + 1) V13)))))))) = some (x, V') ∧
      (if (N 5) ≤ nI k then some (sM Vm N) else ((rd 236 N (212 + (3 * nI k))).bind fun x3 => ((rd 236 N ((212 + (3 * nI k)) + 1)).bind fun x4 => ((f_X4_ableOf (sM Vm N) x3).bind fun x5 => (if x5 < x4 then (if (N 2) = 1 then (f_X4_looks_L4 (m' + t + 1) (nI k + 1) 1 (sM Vm N)) else (f_X4_looks_L4 (m' + t + 1) (nI k + 1) 0 (sM Vm N))) else (b2 (f_X4_takes (sM Vm N) x3 x4) fun x8 V8 => (lt1 (st V8 1 7 ((V8 1 7) + 1)) fun V9 => ((f_X4_leaves V9 (nI k)).bind fun V10 => (f_X4_looks_L4 (m' + t + 1) (nI k) 1 V10))))))))) = some (sM Vm N') ∧ Ok n d q' T V' N' ∧ N' 7 = M 7 + x ∧ (∀ c, Cl n c N → Cl n c N') ∧ (∀ j, j < 5 → N' j = N j)
    rw [if_neg (nI_ge (by omega) (by omega)), rd_nI (by omega) (by omega), ob_s, rd_nI (by omega) (by omega), ob_s, e22, e23, ew, share_eq h.1 hw, b2_mk]
    rw [e5, if_neg (nI_ge (by omega) (by omega)), ix_q, nI_1 (212 + 3 * k), rd_nI (by omega) (by omega), ob_s, rd_nI (by omega) (by omega), ob_s, n0, n1, ew, ha, ob_s]
    by_cases hp : (M (212 + 3 * p + 1)).toInt ≤ abl M w0 12 w0
    · rw [if_pos (by rw [i_eq, hs]; omega), if_neg (show ¬ a < M (212 + 3 * p + 1) by rw [i_lt, hai, hab]; omega)]
      obtain ⟨l, l', V', M', N', e1, e2, e3, e4, e6, e8⟩ := h.take (Vm := Vm) hw (b := M (212 + 3 * p + 1)) (by omega) hp
      have h5 := e3.2.2.2.1
      have h2 := (e3.more (y := 1)).leave hpq
      rw [nI_1, show p - k + 1 = p + 1 - k by omega] at h2
      obtain ⟨x, V2, N2, q2, f1, f2, f3, f4, f5, f6⟩ := ih k (p + 1) m m' V' M' _ (by omega) h2
      rw [e1, b2_mk, e2, b2_mk, lt1_mk, st_sM2, leaves_eq (c := k + (q - p) - 1) (by omega) (by omega) (by rw [upd_ne (by omega), h5]; congr 1; omega), ob_s, nI_1]
      refine ⟨x, V2, N2, q2, f1, f2, f3, by rw [f4, e8], fun c hc => f5 c ?_, fun j hj => ?_⟩
      · exact (e4 c hc).far (fun w hw => by rw [Lv_lo (by omega), upd_ne (by omega), upd_ne (by omega)])
      · rw [f6 j hj, Lv_lo (by omega), upd_ne (by omega), upd_ne (by omega)]; exact e6 j (by omega)
    · rw [if_neg (by rw [i_eq, hs]; omega), if_pos (show a < M (212 + 3 * p + 1) by rw [i_lt, hai, hab]; omega)]
      have hS : J n d q T k p (nI (p - k)) (sS V (shr M w0 12 w0 (M (212 + 3 * p + 1)) (S0 V))) M N := h.sS
      have hm := hS.mv hpq
      rw [show p - k = p + 1 - (k + 1) by omega] at hm
      rw [hS.pass, move_eq (by omega) (by omega), ob_s, ob_s, nI_1, nI_1]
      by_cases c : N 2 = 1
      · rw [if_pos c, if_pos c]
        obtain ⟨x, V2, N2, q2, f1, f2, f3, f4, f5, f6⟩ := ih (k + 1) (p + 1) m m' _ _ _ (by omega) hm
        exact ⟨x, V2, N2, q2, f1, f2, f3, by rw [f4, mvM_lo (by omega)], f5, f6⟩
      · rw [if_neg c, if_neg c]
        obtain ⟨V', q', f1, f2⟩ := serve_mv c t (k + 1) (p + 1) m _ _ (by omega) hm
        exact ⟨_, V', N, q', f1, rfl, f2, by rw [show p + 1 - (k + 1) = p - k by omega]; exact h.2.2.2.2.1, fun _ h => h, fun _ _ => rfl⟩
theorem J.start {n d q : Nat} {T : Int} {V : FV} {N : Nat → Int32} (h : Ok n d q T V N) : J n d q T 0 0 0 V N N :=
  ⟨h, by omega, fun _ _ _ _ => rfl, by rw [h.1.1.2.2.2.2.2.1]; congr 1; omega, (Int32.add_zero _).symm, fun _ _ _ _ => rfl, fun _ _ _ _ => rfl⟩
theorem serve_sim {n d q : Nat} {T : Int} {V Vm : FV} {N : Nat → Int32} (hO : Ok n d q T V N) : ∃ (x : Int32) (V' : FV) (N' : Nat → Int32) (q' : Nat), f_X0_serveWaiting V = some (x, V') ∧ f_X4_looks (sM Vm N) = some (sM Vm N') ∧ Ok n d q' T V' N' ∧ N' 7 = N 7 + x ∧ (∀ c, Cl n c N → Cl n c N') ∧ (∀ j, j < 5 → N' j = N j) := by
  have hb := hO.2.1
  obtain ⟨m, hm⟩ := FUEL_ge (k := q + 1) (by omega)
  unfold f_X0_serveWaiting f_X4_looks
  rw [hm, hO.1.1.2.2.2.2.1]
  exact serve_loop q 0 0 m m V N N (by omega) (J.start hO)
/-! cancelling -/
theorem place_case (q : Nat) (hq : q ≤ 8) (p : Int32) : (∃ k, k < q ∧ p = nI (k + 1)) ∨ (p < 1 ∨ nI q < p) := by
  by_cases h1 : p < 1
  · exact Or.inr (Or.inl h1)
  · by_cases h2 : nI q < p
    · exact Or.inr (Or.inr h2)
    · left
      have i1 : (1 : Int32).toInt = 1 := rfl
      rw [i_lt, i1] at h1
      rw [i_lt, nI_toInt (by omega)] at h2
      refine ⟨p.toInt.toNat - 1, by omega, ?_⟩
      rw [i_eq, nI_toInt (by omega)]
      omega
theorem x0_place_y {n d q : Nat} {V : FV} {N : Nat → Int32} (h : Rel n d q V N) (hq : q ≤ 8) {k : Nat} (hk : k < q) : f_X0_isPlace V (nI (k + 1)) = some 1 := by
  unfold f_X0_isPlace
  have i1 : (1 : Int32).toInt = 1 := rfl
  rw [h.1.2.2.2.2.1, if_neg (by rw [i_lt, nI_toInt (by omega), i1]; omega), if_neg (by rw [i_lt, nI_toInt (by omega), nI_toInt (by omega)]; omega)]
theorem x0_place_n {n d q : Nat} {V : FV} {N : Nat → Int32} (h : Rel n d q V N) {p : Int32} (hp : p < 1 ∨ nI q < p) : f_X0_isPlace V p = some 0 := by
  unfold f_X0_isPlace
  rw [h.1.2.2.2.2.1]
  by_cases c : p < 1
  · rw [if_pos c]
  · rw [if_neg c, if_pos (hp.resolve_left c)]
theorem x4_place_y {n d q : Nat} {V Vm : FV} {N : Nat → Int32} (h : Rel n d q V N) (hq : q ≤ 8) {k : Nat} (hk : k < q) : f_X4_isPlace (sM Vm N) (nI (k + 1)) = some 1 := by
  unfold f_X4_isPlace
  have i1 : (1 : Int32).toInt = 1 := rfl
  rw [sM_1, h.1.2.2.2.2.2.1, in_y (by rw [i_lt, nI_toInt (by omega), i1]; omega) (by rw [i_lt, nI_toInt (by omega), nI_toInt (by omega)]; omega), ob_s, bz_1, ob_s]
theorem x4_place_n {n d q : Nat} {V Vm : FV} {N : Nat → Int32} (h : Rel n d q V N) {p : Int32} (hp : p < 1 ∨ nI q < p) : f_X4_isPlace (sM Vm N) p = some 0 := by
  unfold f_X4_isPlace
  rw [sM_1, h.1.2.2.2.2.2.1, in_n hp, ob_s, bz_0, ob_s]
theorem st_self {V : FV} {i j : Nat} : st V i j (V i j) = V := by
  funext a b
  rw [st_at]
  by_cases c : a = i ∧ b = j
  · rw [if_pos c, c.1, c.2]
  · rw [if_neg c]
theorem drop_loop {n d q : Nat} {T : Int} {N : Nat → Int32} {y1 y2 : Int32} : ∀ (t k m : Nat) (V : FV) (M : Nat → Int32), k + 1 + t = q → J n d q T k (k + 1) 0 V M N → ∃ V' : FV, f_X0_dropRequest_L23 (m + t + 1) y1 y2 (nI (k + 1)) V = some (y2, V') ∧ Ok n d (q - 1) T V' N := by
  intro t
  induction t with
  | zero =>
    intro k m V M ht h
    have hq : q = k + 1 := by omega
    subst hq
    have hb := h.1.2.1
    have e := h.fin
    rw [Int32.add_zero, show V 0 4 = st V 0 2 (nI k) 0 4 from (st_ne (by omega)).symm, st_self] at e
    refine ⟨_, ?_, e⟩
    show (if (V 0 2) ≤ nI (k + 1) then (lt1 (st V 0 2 ((V 0 2) - 1)) fun V5 => some (y2, V5)) else _) = _
    rw [h.1.1.1.2.2.2.2.1, if_pos (nI_le (Nat.le_refl _) (by omega)), lt1_mk, nI_sub1]
  | succ t ih =>
    intro k m V M ht h
    have hb := h.1.2.1
    obtain ⟨V', e1, e2⟩ := ih (k + 1) m _ _ (by omega) (h.mv (by omega))
    refine ⟨V', ?_, e2⟩
    show (if (V 0 2) ≤ nI (k + 1) then _ else ((f_X0_moveRequest V (nI (k + 1)) (nI (k + 1) - 1)).bind fun V6 => (f_X0_dropRequest_L23 (m + t + 1) y1 y2 (nI (k + 1) + 1) V6))) = _
    rw [h.1.1.1.2.2.2.2.1, if_neg (nI_ge (by omega) (by omega)), nI_sub1, move_eq (by omega) (by omega), ob_s, nI_1]
    exact e1
theorem drop_sim {n d q : Nat} {T : Int} {V : FV} {N : Nat → Int32} (hO : Ok n d q T V N) {k : Nat} (hk : k < q) : ∃ (V' : FV) (N' : Nat → Int32), f_X0_dropRequest V (nI (k + 1)) = some (N (212 + 3 * k + 1), V') ∧ (∀ Vm : FV, f_X4_leaves (sM Vm N) (nI k) = some (sM Vm N')) ∧ Ok n d (q - 1) T V' N' ∧ (∀ c, Cl n c N → Cl n c N') ∧ N' 0 = N 0 := by
  have hb := hO.2.1
  obtain ⟨m, hm⟩ := FUEL_ge (k := q - k) (by omega)
  have h0 : J n d q T k k 0 V N N := ⟨hO, by omega, fun _ _ _ _ => rfl, by rw [hO.1.1.2.2.2.2.2.1]; congr 1; omega, (Int32.add_zero _).symm, fun _ _ _ _ => rfl, fun _ _ _ _ => rfl⟩
  have h1 := h0.leave hk
  obtain ⟨V', e1, e2⟩ := drop_loop (y1 := nI (k + 1)) (y2 := N (212 + 3 * k + 1)) (q - k - 1) k m V N (by omega) h1
  refine ⟨V', _, ?_, fun Vm => leaves_eq (c := k + (q - k) - 1) (by omega) (by omega) (by rw [hO.1.1.2.2.2.2.2.1]; congr 1; omega), e2, fun c hc => hc.far (fun w hw => by rw [Lv_lo (by omega), upd_ne (by omega)]), by rw [Lv_lo (by omega), upd_ne (by omega)]⟩
  unfold f_X0_dropRequest
  rw [x0_place_y hO.1 (by omega) hk, ob_s, if_neg (by decide), nI_sub1, rd_nI (by omega) (by omega), ob_s, hm, show m + (q - k) = m + (q - k - 1) + 1 by omega]
  rw [show V 23 k = N (212 + 3 * k + 1) from hO.1.2.2.2.2.2 k 1 hk (by omega)]
  exact e1
