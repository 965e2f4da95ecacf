/-! ===== noon and evening ===== -/
theorem nI_ofInt {x : Int32} (h : 0 ≤ x.toInt) : x = nI x.toInt.toNat := by
  have := fb_rng x
  rw [i_eq, nI_toInt (by omega)]
  omega
theorem half_toInt {x : Int32} (h : 0 ≤ x.toInt) : (x / 2).toInt = x.toInt / 2 := by
  obtain ⟨c, hc, rfl⟩ := nI_of (x := x) (by rw [i_lt, i_0]; omega)
  rw [show (2 : Int32) = nI 2 from rfl, pk_div hc (by omega) (by omega), nI_toInt (by omega), nI_toInt hc]
  omega
theorem upd_comm {f : Nat → Int32} {i j : Nat} {x y : Int32} (h : i ≠ j) : upd (upd f i x) j y = upd (upd f j y) i x := by
  funext a
  rw [upd_at, upd_at, upd_at, upd_at]
  by_cases h1 : a = j
  · rw [if_pos h1, if_neg (by omega), if_pos h1]
  · rw [if_neg h1]
    by_cases h2 : a = i
    · rw [if_pos h2, if_pos h2]
    · rw [if_neg h2, if_neg h2, if_neg h1]
theorem WW.above {N : Nat → Int32} {w : Nat} (h : WW N w) (hw : 0 < w) : ∃ a, a < w ∧ N (8 + 12 * w) = nI a := h.2.1 hw
theorem lend_loop {n d q : Nat} {T : Int} {Vm : FV} : ∀ (k m m' : Nat) (s : Int32) (V : FV) (N : Nat → Int32), k < n → Ok n d q T V N → ∃ (s' : Int32) (V' : FV) (N' : Nat → Int32), f_X0_lendAtNoon_L9 (m + k + 1) s (nI k) V = some (s', V') ∧ f_X4_lends_L11 (m' + k + 1) s (nI k) (sM Vm N) = some (s', sM Vm N') ∧ Ok n d q T V' N' ∧ (∀ j, (j < 8 ∨ 152 ≤ j) → N' j = N j) ∧
    (∀ c : Int, 0 ≤ c → c ≤ 100000000 → Cl n (c + 1000) N → (∀ w, w ≤ k → (N (8 + 12 * w + 5)).toInt ≤ c) → Cl n (c + 1000) N') := by
  intro k
  induction k with
  | zero =>
    intro m m' s V N hk hO
    refine ⟨s, V, N, ?_, ?_, hO, fun j _ => rfl, fun c _ _ h _ => h⟩
    · rfl
    · rfl
  | succ k ih =>
    intro m m' s V N hk hO
    have hb := hO.2.1
    have hW := hO.2.2.2.2.2.1 (k + 1) hk
    obtain ⟨a, ha, ea⟩ := hW.above (by omega)
    have hWa := hO.2.2.2.2.2.1 a (by omega)
    have hroom := hWa.room
    show ∃ (s' : Int32) (V' : FV) (N' : Nat → Int32), (if nI (k + 1) ≤ 0 then some (s, V) else ((rd 12 (V 6) (nI (k + 1))).bind fun x2 => ((rd 12 (V 10) (nI (k + 1))).bind fun x3 => ((rd 12 (V 7) (nI (k + 1))).bind fun x4 => ((f_X0_isWell V x2).bind fun x5 => (if x5 = 0 then (f_X0_lendAtNoon_L9 (m + k + 1) s (nI (k + 1) + (-1)) V) else ((f_X0_roomIn V x2).bind fun x7 => (lt1 (jmin (x3 - (x4 / 2)) x7) fun x8 => (if x8 ≤ 0 then (f_X0_lendAtNoon_L9 (m + k + 1) s (nI (k + 1) + (-1)) V) else ((rd 12 (V 10) (nI (k + 1))).bind fun x10 => ((wr 12 V 10 (nI (k + 1)) (x10 - x8)).bind fun V11 => ((rd 12 (V11 10) x2).bind fun x12 => ((wr 12 V11 10 x2 (x12 + x8)).bind fun V13 => ((rd 12 (V13 11) (nI (k + 1))).bind fun x14 => ((wr 12 V13 11 (nI (k + 1)) (x14 + x8)).bind fun V15 => ((rd 12 (V15 16) x2).bind fun x16 => ((wr 12 V15 16 x2 (x16 + x8)).bind fun V17 => (f_X0_lendAtNoon_L9 (m + k + 1) (s ||| (1 <<< (nI (k + 1) &&& 31))) (nI (k + 1) + (-1)) V17)))))))))))))))))) = some (s', V') ∧
      (if nI (k + 1) ≤ 0 then some (s, sM Vm N) else ((f_X4_of (sM Vm N) (nI (k + 1)) 0).bind fun x2 => ((f_X4_of (sM Vm N) (nI (k + 1)) 4).bind fun x3 => ((f_X4_half (sM Vm N) (nI (k + 1))).bind fun x4 => ((f_X4_room (sM Vm N) x2).bind fun x5 => ((f_X4_least (x3 - x4) x5).bind fun x6 => (if x6 ≤ 0 then (f_X4_lends_L11 (m' + k + 1) s (nI (k + 1) + (-1)) (sM Vm N)) else ((f_X4_adds (sM Vm N) (nI (k + 1)) 4 (-x6)).bind fun V8 => ((f_X4_adds V8 (nI (k + 1)) 5 x6).bind fun V9 => ((f_X4_adds V9 x2 4 x6).bind fun V10 => ((f_X4_adds V10 x2 10 x6).bind fun V11 => (f_X4_lends_L11 (m' + k + 1) (s ||| (1 <<< (nI (k + 1) &&& 31))) (nI (k + 1) + (-1)) V11)))))))))))) = some (s', sM Vm N') ∧ _
    rw [if_neg (nI_nle (by omega) (by omega)), if_neg (nI_nle (by omega) (by omega)), pk_m1, show (0 : Int32) = nI 0 from rfl, show (4 : Int32) = nI 4 from rfl, show (5 : Int32) = nI 5 from rfl, show (10 : Int32) = nI 10 from rfl,
      rd_nI (by omega) (by omega), ob_s, rd_nI (by omega) (by omega), ob_s, rd_nI (by omega) (by omega), ob_s, show f_X4_of (sM Vm N) (nI (k + 1)) (nI 0) = some (N (8 + 12 * (k + 1))) from of_eqM (k := 0) (by omega) (by omega), ob_s, of_eqM (by omega) (by omega), ob_s, half_eq (by omega), ob_s, sM_1,
      show V 6 (k + 1) = N (8 + 12 * (k + 1)) from hO.1.2.1 (k + 1) 0 hk (by omega), show V 10 (k + 1) = N (8 + 12 * (k + 1) + 4) from hO.1.2.1 (k + 1) 4 hk (by omega), show V 7 (k + 1) = N (8 + 12 * (k + 1) + 1) from hO.1.2.1 (k + 1) 1 hk (by omega), ea,
      x0_isWell_y hO.1.1.1 hb.1 (by omega : a < n), ob_s, if_neg (by decide), room_eq (by omega), sM_1, ob_s, roomIn_eq hO.1 hb.1 (by omega), ob_s, lt1_mk]
    simp only [ob_s, least_eq]
    generalize hx : jmin (N (8 + 12 * (k + 1) + 4) - N (8 + 12 * (k + 1) + 1) / 2) (N (8 + 12 * a + 1) - N (8 + 12 * a + 4)) = x
    by_cases hx0 : x ≤ nI 0
    · rw [if_pos hx0, if_pos hx0]
      obtain ⟨s', V', N', e1, e2, e3, e4, e5⟩ := ih m m' s V N (by omega) hO
      exact ⟨s', V', N', e1, e2, e3, e4, fun c h1 h2 h3 h4 => e5 c h1 h2 h3 (fun w hw => h4 w (by omega))⟩
    · rw [if_neg hx0, if_neg hx0]
      have hxp : 0 < x.toInt ∧ x.toInt ≤ (N (8 + 12 * (k + 1) + 4)).toInt ∧ x.toInt ≤ (N (8 + 12 * a + 1)).toInt - (N (8 + 12 * a + 4)).toInt ∧ x.toInt ≤ 1000 := by
        rw [i_le, show (nI 0).toInt = 0 from rfl] at hx0
        obtain ⟨-, -, q1, q3, -, q2⟩ := hW
        obtain ⟨-, -, p1, p3, -, p2⟩ := hWa
        have h2 := half_toInt (x := N (8 + 12 * (k + 1) + 1)) (by omega)
        have h3 : (N (8 + 12 * (k + 1) + 4) - N (8 + 12 * (k + 1) + 1) / 2).toInt = (N (8 + 12 * (k + 1) + 4)).toInt - (N (8 + 12 * (k + 1) + 1)).toInt / 2 := by
          rw [fb_subI (by omega) (by omega), h2]
        have h4 := jmin_toInt (N (8 + 12 * (k + 1) + 4) - N (8 + 12 * (k + 1) + 1) / 2) (N (8 + 12 * a + 1) - N (8 + 12 * a + 4))
        rw [hx, h3, hroom] at h4
        omega
      rw [wr_nI (by omega) (by omega), ob_s, rd_nI (by omega) (by omega), ob_s, wr_nI (by omega) (by omega), ob_s, rd_nI (by omega) (by omega), ob_s, wr_nI (by omega) (by omega), ob_s, rd_nI (by omega) (by omega), ob_s, wr_nI (by omega) (by omega), ob_s,
        adds_eqM (by omega) (by omega), ob_s, adds_eqM (by omega) (by omega), ob_s, adds_eqM (by omega) (by omega), ob_s, adds_eqM (by omega) (by omega), ob_s]
      -- the class's order of writing
      have hR1 := hO.1.put (w := k + 1) (r := 4) hb.1 hk (by omega) (by omega) (N (8 + 12 * (k + 1) + 4) - x)
      have hR2 := hR1.put (w := a) (r := 4) hb.1 (by omega) (by omega) (by omega) (N (8 + 12 * a + 4) + x)
      have hR3 := hR2.put (w := k + 1) (r := 5) hb.1 hk (by omega) (by omega) (N (8 + 12 * (k + 1) + 5) + x)
      have hR4 := hR3.put (w := a) (r := 10) hb.1 (by omega) (by omega) (by omega) (N (8 + 12 * a + 10) + x)
      have v1 : V 10 (k + 1) = N (8 + 12 * (k + 1) + 4) := hO.1.2.1 (k + 1) 4 hk (by omega)
      have v2 : V 10 a = N (8 + 12 * a + 4) := hO.1.2.1 a 4 (by omega) (by omega)
      have v3 : V 11 (k + 1) = N (8 + 12 * (k + 1) + 5) := hO.1.2.1 (k + 1) 5 hk (by omega)
      have v4 : V 16 a = N (8 + 12 * a + 10) := hO.1.2.1 a 10 (by omega) (by omega)
      have eV : st (st (st (st V 10 (k + 1) (N (8 + 12 * (k + 1) + 4) - x)) 10 a (st V 10 (k + 1) (N (8 + 12 * (k + 1) + 4) - x) 10 a + x)) 11 (k + 1) (st (st V 10 (k + 1) (N (8 + 12 * (k + 1) + 4) - x)) 10 a (st V 10 (k + 1) (N (8 + 12 * (k + 1) + 4) - x) 10 a + x) 11 (k + 1) + x)) 16 a (st (st (st V 10 (k + 1) (N (8 + 12 * (k + 1) + 4) - x)) 10 a (st V 10 (k + 1) (N (8 + 12 * (k + 1) + 4) - x) 10 a + x)) 11 (k + 1) (st (st V 10 (k + 1) (N (8 + 12 * (k + 1) + 4) - x)) 10 a (st V 10 (k + 1) (N (8 + 12 * (k + 1) + 4) - x) 10 a + x) 11 (k + 1) + x) 16 a + x) =
          st (st (st (st V (6 + 4) (k + 1) (N (8 + 12 * (k + 1) + 4) - x)) (6 + 4) a (N (8 + 12 * a + 4) + x)) (6 + 5) (k + 1) (N (8 + 12 * (k + 1) + 5) + x)) (6 + 10) a (N (8 + 12 * a + 10) + x) := by
        rw [st_ne (V := V) (a := 10) (b := a) (by omega), st_ne (a := 11) (b := k + 1) (by omega), st_ne (a := 11) (b := k + 1) (by omega), st_ne (a := 16) (b := a) (by omega), st_ne (a := 16) (b := a) (by omega), st_ne (a := 16) (b := a) (by omega), v2, v3, v4]
      have eN : ad (ad (ad (ad N (k + 1) 4 (-x)) (k + 1) 5 x) a 4 x) a 10 x = upd (upd (upd (upd N (8 + 12 * (k + 1) + 4) (N (8 + 12 * (k + 1) + 4) - x)) (8 + 12 * a + 4) (N (8 + 12 * a + 4) + x)) (8 + 12 * (k + 1) + 5) (N (8 + 12 * (k + 1) + 5) + x)) (8 + 12 * a + 10) (N (8 + 12 * a + 10) + x) := by
        rw [upd_comm (i := 8 + 12 * a + 4) (j := 8 + 12 * (k + 1) + 5) (by omega)]
        rw [ad_put (w := a) (k := 10), ad_put (w := a) (k := 4), ad_put (w := k + 1) (k := 5), ad_put (w := k + 1) (k := 4)]
        rw [upd_ne (j := 8 + 12 * (k + 1) + 5) (by omega), upd_ne (j := 8 + 12 * a + 4) (by omega), upd_ne (j := 8 + 12 * a + 4) (by omega), upd_ne (j := 8 + 12 * a + 10) (by omega), upd_ne (j := 8 + 12 * a + 10) (by omega), upd_ne (j := 8 + 12 * a + 10) (by omega), Int32.sub_eq_add_neg]
      have s1 : (N (8 + 12 * (k + 1) + 4) - x).toInt = (N (8 + 12 * (k + 1) + 4)).toInt - x.toInt := by
        obtain ⟨-, -, q1, q3, -, q2⟩ := hW
        exact fb_subI (by omega) (by omega)
      have s2 : (N (8 + 12 * a + 4) + x).toInt = (N (8 + 12 * a + 4)).toInt + x.toInt := by
        obtain ⟨-, -, p1, p3, -, p2⟩ := hWa
        exact fb_addI (by omega) (by omega)
      have hW1 := hO.2.put (w := k + 1) (r := 4) (x := N (8 + 12 * (k + 1) + 4) - x) hk (by omega) (by omega) (by omega) (by omega) (fun _ => by
        obtain ⟨-, -, q1, q3, -, q2⟩ := hW
        rw [s1]; omega)
      have hW2 := hW1.put (w := a) (r := 4) (x := N (8 + 12 * a + 4) + x) (by omega) (by omega) (by omega) (by omega) (by omega) (fun _ => by
        obtain ⟨-, -, p1, p3, -, p2⟩ := hWa
        rw [upd_ne (by omega), s2]; omega)
      have hW3 := hW2.put (w := k + 1) (r := 5) (x := N (8 + 12 * (k + 1) + 5) + x) hk (by omega) (by omega) (by omega) (by omega) (fun e => absurd e (by omega))
      have hW4 := hW3.put (w := a) (r := 10) (x := N (8 + 12 * a + 10) + x) (by omega) (by omega) (by omega) (by omega) (by omega) (fun e => absurd e (by omega))
      rw [eV, eN]
      obtain ⟨s', V', N', e1, e2, e3, e4, e5⟩ := ih m m' (s ||| (1 <<< (nI (k + 1) &&& 31))) _ _ (by omega) ⟨hR4, hW4⟩
      refine ⟨s', V', N', e1, e2, e3, fun j hj => by rw [e4 j hj, upd_ne (by omega), upd_ne (by omega), upd_ne (by omega), upd_ne (by omega)], fun c h1 h2 h3 h4 => e5 c h1 h2 ?_ ?_⟩
      · refine ((((h3.put (w := k + 1) (r := 4) (by omega) (by omega)).put (w := a) (r := 4) (by omega) (by omega)).put5 (w := k + 1) ?_).put (w := a) (r := 10) (by omega) (by omega))
        have hc := h3 (k + 1) hk
        have hc2 := h4 (k + 1) (by omega)
        have s3 : (N (8 + 12 * (k + 1) + 5) + x).toInt = (N (8 + 12 * (k + 1) + 5)).toInt + x.toInt := fb_addI (by omega) (by omega)
        rw [s3]; omega
      · intro w hw
        rw [upd_ne (by omega), upd_ne (by omega), upd_ne (by omega), upd_ne (by omega)]
        exact h4 w (by omega)
theorem lend_sim {n d q : Nat} {T : Int} {Vm V : FV} {N : Nat → Int32} (hO : Ok n d q T V N) : ∃ (s' : Int32) (V' : FV) (N' : Nat → Int32), f_X0_lendAtNoon V = some (s', V') ∧ f_X4_lends (sM Vm N) = some (s', sM Vm N') ∧ Ok n d q T V' N' ∧ (∀ j, (j < 8 ∨ 152 ≤ j) → N' j = N j) ∧ (∀ c : Int, 0 ≤ c → c ≤ 100000000 → Cl n c N → Cl n (c + 1000) N') := by
  have hb := hO.2.1
  obtain ⟨m, hm⟩ := FUEL_ge (k := n + 1) (by omega)
  unfold f_X0_lendAtNoon f_X4_lends
  rw [sM_1, hO.1.1.1, hO.1.1.2.1]
  cases n with
  | zero =>
    refine ⟨0, V, N, ?_, ?_, hO, fun j _ => rfl, fun c _ _ h w hw => by omega⟩
    · rw [hm]
      rfl
    · rw [hm]
      rfl
  | succ k =>
    rw [nI_pred, show FUEL = (m + 1) + k + 1 by omega]
    obtain ⟨s', V', N', e1, e2, e3, e4, e5⟩ := lend_loop (Vm := Vm) k (m + 1) (m + 1) 0 V N (by omega) hO
    exact ⟨s', V', N', e1, e2, e3, e4, fun c h1 h2 h3 => e5 c h1 h2 (fun w hw => by have := h3 w hw; omega) (fun w hw => (h3 w (by omega)).2)⟩
/-! evening -/
theorem pay_inner {n d q : Nat} {T c : Int} (hc : c ≤ 200000000) {Vm : FV} {w : Nat} {k0 : Int32 → FV → Option FV} {k1 : Int32 → FV → Option FV} : ∀ (k i m m' : Nat) (V : FV) (N : Nat → Int32), i + k = n → w < i → Ok n d q T V N → Cl n c N → ∃ (V' : FV) (N' : Nat → Int32), f_X0_payBackInEvening_L14 k0 (m + k + 1) (nI w) (nI i) V = k0 (nI w + 1) V' ∧ f_X4_paysBack_L16 k1 (m' + k + 1) (nI w) (nI i) (sM Vm N) = k1 (nI w + 1) (sM Vm N') ∧ Ok n d q T V' N' ∧ Cl n c N' ∧ (∀ j, (j < 8 ∨ 152 ≤ j) → N' j = N j) := by
  intro k
  induction k with
  | zero =>
    intro i m m' V N h hwi hO hC
    have hi : i = n := by omega
    subst hi
    have hb := hO.2.1
    refine ⟨V, N, ?_, ?_, hO, hC, fun j _ => rfl⟩
    · show (if (V 0 0) ≤ nI i then _ else _) = _
      rw [hO.1.1.1, if_pos (nI_le (Nat.le_refl i) (by omega))]
    · show (if (sM Vm N 1 3) ≤ nI i then _ else _) = _
      rw [sM_1, hO.1.1.2.1, if_pos (nI_le (Nat.le_refl i) (by omega))]
  | succ k ih =>
    intro i m m' V N h hwi hO hC
    have hb := hO.2.1
    have hlt : i < n := by omega
    have hW := hO.2.2.2.2.2.1 i hlt
    have hWw := hO.2.2.2.2.2.1 w (by omega)
    have hroom := hW.room
    show ∃ (V' : FV) (N' : Nat → Int32), (if (V 0 0) ≤ nI i then (k0 (nI w + 1) V) else ((rd 12 (V 6) (nI i)).bind fun x3 => (if x3 = nI w then ((f_X0_payBack V (nI w) (nI i)).bind fun V5 => (f_X0_payBackInEvening_L14 k0 (m + k + 1) (nI w) (nI i + 1) V5)) else (f_X0_payBackInEvening_L14 k0 (m + k + 1) (nI w) (nI i + 1) V)))) = k0 (nI w + 1) V' ∧
      (if (sM Vm N 1 3) ≤ nI i then (k1 (nI w + 1) (sM Vm N)) else ((f_X4_of (sM Vm N) (nI i) 0).bind fun x3 => (if x3 = nI w then ((f_X4_of (sM Vm N) (nI i) 5).bind fun x9 => ((f_X4_of (sM Vm N) (nI w) 4).bind fun x10 => ((f_X4_room (sM Vm N) (nI i)).bind fun x11 => ((f_X4_least x10 x11).bind fun x12 => ((f_X4_least x9 x12).bind fun x13 => ((f_X4_adds (sM Vm N) (nI w) 4 (-x13)).bind fun V14 => ((f_X4_adds V14 (nI i) 4 x13).bind fun V15 => ((f_X4_adds V15 (nI i) 5 (-x13)).bind fun V16 => ((f_X4_adds V16 (nI i) 11 x13).bind fun V17 => (f_X4_paysBack_L16 k1 (m' + k + 1) (nI w) (nI i + 1) V17)))))))))) else ((f_X4_adds (sM Vm N) (nI w) 4 (-0)).bind fun V5 => ((f_X4_adds V5 (nI i) 4 0).bind fun V6 => ((f_X4_adds V6 (nI i) 5 (-0)).bind fun V7 => ((f_X4_adds V7 (nI i) 11 0).bind fun V8 => (f_X4_paysBack_L16 k1 (m' + k + 1) (nI w) (nI i + 1) V8)))))))) = k1 (nI w + 1) (sM Vm N') ∧ _
    rw [hO.1.1.1, if_neg (nI_ge hlt (by omega)), sM_1, hO.1.1.2.1, if_neg (nI_ge hlt (by omega)), rd_nI (by omega) (by omega), ob_s, show f_X4_of (sM Vm N) (nI i) 0 = some (N (8 + 12 * i + 0)) from of_eqM (k := 0) (by omega) (by omega), ob_s, show V 6 i = N (8 + 12 * i + 0) from hO.1.2.1 i 0 hlt (by omega), nI_1,
      show (4 : Int32) = nI 4 from rfl, show (5 : Int32) = nI 5 from rfl, show (11 : Int32) = nI 11 from rfl]
    by_cases cw : N (8 + 12 * i + 0) = nI w
    · rw [if_pos cw, if_pos cw, of_eqM (by omega) (by omega), ob_s, of_eqM (by omega) (by omega), ob_s, room_eq (by omega), sM_1, ob_s, least_eq, ob_s, least_eq, ob_s]
      unfold f_X0_payBack
      rw [rd_nI (by omega) (by omega), ob_s, rd_nI (by omega) (by omega), ob_s, roomIn_eq hO.1 hb.1 hlt, ob_s, lt1_mk, lt1_mk, show V 11 i = N (8 + 12 * i + 5) from hO.1.2.1 i 5 hlt (by omega), show V 10 w = N (8 + 12 * w + 4) from hO.1.2.1 w 4 (by omega) (by omega)]
      generalize hx : jmin (N (8 + 12 * i + 5)) (jmin (N (8 + 12 * w + 4)) (N (8 + 12 * i + 1) - N (8 + 12 * i + 4))) = x
      have hxp : 0 ≤ x.toInt ∧ x.toInt ≤ (N (8 + 12 * i + 5)).toInt ∧ x.toInt ≤ (N (8 + 12 * w + 4)).toInt ∧ x.toInt ≤ (N (8 + 12 * i + 1)).toInt - (N (8 + 12 * i + 4)).toInt := by
        have hcl := hC i hlt
        obtain ⟨-, -, q1, q3, -, q2⟩ := hW
        obtain ⟨-, -, p1, p3, -, p2⟩ := hWw
        rw [← hx, jmin_toInt, jmin_toInt, hroom]
        omega
      rw [ob_s, wr_nI (by omega) (by omega), ob_s, rd_nI (by omega) (by omega), ob_s, wr_nI (by omega) (by omega), ob_s, rd_nI (by omega) (by omega), ob_s, wr_nI (by omega) (by omega), ob_s, rd_nI (by omega) (by omega), ob_s, wr_nI (by omega) (by omega), ob_s, ob_s,
        adds_eqM (by omega) (by omega), ob_s, adds_eqM (by omega) (by omega), ob_s, adds_eqM (by omega) (by omega), ob_s, adds_eqM (by omega) (by omega), ob_s]
      have hR1 := hO.1.put (w := w) (r := 4) hb.1 (by omega) (by omega) (by omega) (N (8 + 12 * w + 4) - x)
      have hR2 := hR1.put (w := i) (r := 4) hb.1 hlt (by omega) (by omega) (N (8 + 12 * i + 4) + x)
      have hR3 := hR2.put (w := i) (r := 5) hb.1 hlt (by omega) (by omega) (N (8 + 12 * i + 5) - x)
      have hR4 := hR3.put (w := i) (r := 11) hb.1 hlt (by omega) (by omega) (N (8 + 12 * i + 11) + x)
      have v1 : V 10 w = N (8 + 12 * w + 4) := hO.1.2.1 w 4 (by omega) (by omega)
      have v2 : V 10 i = N (8 + 12 * i + 4) := hO.1.2.1 i 4 hlt (by omega)
      have v3 : V 11 i = N (8 + 12 * i + 5) := hO.1.2.1 i 5 hlt (by omega)
      have v4 : V 17 i = N (8 + 12 * i + 11) := hO.1.2.1 i 11 hlt (by omega)
      have eV : st (st (st (st V 10 w (N (8 + 12 * w + 4) - x)) 10 i (st V 10 w (N (8 + 12 * w + 4) - x) 10 i + x)) 11 i (st (st V 10 w (N (8 + 12 * w + 4) - x)) 10 i (st V 10 w (N (8 + 12 * w + 4) - x) 10 i + x) 11 i - x)) 17 i (st (st (st V 10 w (N (8 + 12 * w + 4) - x)) 10 i (st V 10 w (N (8 + 12 * w + 4) - x) 10 i + x)) 11 i (st (st V 10 w (N (8 + 12 * w + 4) - x)) 10 i (st V 10 w (N (8 + 12 * w + 4) - x) 10 i + x) 11 i - x) 17 i + x) =
          st (st (st (st V (6 + 4) w (N (8 + 12 * w + 4) - x)) (6 + 4) i (N (8 + 12 * i + 4) + x)) (6 + 5) i (N (8 + 12 * i + 5) - x)) (6 + 11) i (N (8 + 12 * i + 11) + x) := by
        rw [st_ne (V := V) (a := 10) (b := i) (by omega), st_ne (a := 11) (b := i) (by omega), st_ne (a := 11) (b := i) (by omega), st_ne (a := 17) (b := i) (by omega), st_ne (a := 17) (b := i) (by omega), st_ne (a := 17) (b := i) (by omega), v2, v3, v4]
      have eN : ad (ad (ad (ad N w 4 (-x)) i 4 x) i 5 (-x)) i 11 x = upd (upd (upd (upd N (8 + 12 * w + 4) (N (8 + 12 * w + 4) - x)) (8 + 12 * i + 4) (N (8 + 12 * i + 4) + x)) (8 + 12 * i + 5) (N (8 + 12 * i + 5) - x)) (8 + 12 * i + 11) (N (8 + 12 * i + 11) + x) := by
        rw [ad_put (w := i) (k := 11), ad_put (w := i) (k := 5), ad_put (w := i) (k := 4), ad_put (w := w) (k := 4)]
        rw [upd_ne (j := 8 + 12 * i + 4) (by omega), upd_ne (j := 8 + 12 * i + 5) (by omega), upd_ne (j := 8 + 12 * i + 5) (by omega), upd_ne (j := 8 + 12 * i + 11) (by omega), upd_ne (j := 8 + 12 * i + 11) (by omega), upd_ne (j := 8 + 12 * i + 11) (by omega), Int32.sub_eq_add_neg, Int32.sub_eq_add_neg]
      have s1 : (N (8 + 12 * w + 4) - x).toInt = (N (8 + 12 * w + 4)).toInt - x.toInt := by
        obtain ⟨-, -, p1, p3, -, p2⟩ := hWw
        exact fb_subI (by omega) (by omega)
      have s2 : (N (8 + 12 * i + 4) + x).toInt = (N (8 + 12 * i + 4)).toInt + x.toInt := by
        obtain ⟨-, -, q1, q3, -, q2⟩ := hW
        exact fb_addI (by omega) (by omega)
      have s3 : (N (8 + 12 * i + 5) - x).toInt = (N (8 + 12 * i + 5)).toInt - x.toInt := by
        have hcl := hC i hlt
        exact fb_subI (by omega) (by omega)
      have hW1 := hO.2.put (w := w) (r := 4) (x := N (8 + 12 * w + 4) - x) (by omega) (by omega) (by omega) (by omega) (by omega) (fun _ => by
        obtain ⟨-, -, p1, p3, -, p2⟩ := hWw
        rw [s1]; omega)
      have hW2 := hW1.put (w := i) (r := 4) (x := N (8 + 12 * i + 4) + x) hlt (by omega) (by omega) (by omega) (by omega) (fun _ => by
        obtain ⟨-, -, q1, q3, -, q2⟩ := hW
        rw [upd_ne (by omega), s2]; omega)
      have hW3 := hW2.put (w := i) (r := 5) (x := N (8 + 12 * i + 5) - x) hlt (by omega) (by omega) (by omega) (by omega) (fun e => absurd e (by omega))
      have hW4 := hW3.put (w := i) (r := 11) (x := N (8 + 12 * i + 11) + x) hlt (by omega) (by omega) (by omega) (by omega) (fun e => absurd e (by omega))
      have hC4 := (((hC.put (w := w) (r := 4) (x := N (8 + 12 * w + 4) - x) (by omega) (by omega)).put (w := i) (r := 4) (x := N (8 + 12 * i + 4) + x) (by omega) (by omega)).put5 (w := i) (x := N (8 + 12 * i + 5) - x) (by have hcl := hC i hlt; rw [s3]; omega)).put (w := i) (r := 11) (x := N (8 + 12 * i + 11) + x) (by omega) (by omega)
      rw [eV, eN]
      obtain ⟨V', N', e1, e2, e3, e4, e5⟩ := ih (i + 1) m m' _ _ (by omega) (by omega) ⟨hR4, hW4⟩ hC4
      exact ⟨V', N', e1, e2, e3, e4, fun j hj => by rw [e5 j hj, upd_ne (by omega), upd_ne (by omega), upd_ne (by omega), upd_ne (by omega)]⟩
    · rw [if_neg cw, if_neg cw, show (0 : Int32) = nI 0 from rfl, adds_eqM (by omega) (by omega), ob_s, adds_eqM (by omega) (by omega), ob_s, adds_eqM (by omega) (by omega), ob_s, adds_eqM (by omega) (by omega), ob_s, ad_0 (by decide), ad_0 (by decide), ad_0 (by decide), ad_0 (by decide)]
      exact ih (i + 1) m m' V N (by omega) (by omega) hO hC
theorem pay_outer {n d q : Nat} {T c : Int} (hc : c ≤ 200000000) {Vm : FV} : ∀ (k i m m' : Nat) (V : FV) (N : Nat → Int32), i + k = n → Ok n d q T V N → Cl n c N → ∃ (V' : FV) (N' : Nat → Int32), f_X0_payBackInEvening_L2 (m + k + 1) (nI i) V = some V' ∧ f_X4_paysBack_L2 (m' + k + 1) (nI i) (sM Vm N) = some (sM Vm N') ∧ Ok n d q T V' N' ∧ Cl n c N' ∧ (∀ j, (j < 8 ∨ 152 ≤ j) → N' j = N j) := by
  intro k
  induction k with
  | zero =>
    intro i m m' V N h hO hC
    have hi : i = n := by omega
    subst hi
    have hb := hO.2.1
    refine ⟨V, N, ?_, ?_, hO, hC, fun j _ => rfl⟩
    · show (if (V 0 0) ≤ nI i then _ else _) = _
      rw [hO.1.1.1, if_pos (nI_le (Nat.le_refl i) (by omega))]
    · show (if (sM Vm N 1 3) ≤ nI i then _ else _) = _
      rw [sM_1, hO.1.1.2.1, if_pos (nI_le (Nat.le_refl i) (by omega))]
  | succ k ih =>
    intro i m m' V N h hO hC
    have hb := hO.2.1
    have hlt : i < n := by omega
    show ∃ (V' : FV) (N' : Nat → Int32), (if (V 0 0) ≤ nI i then some V else (f_X0_payBackInEvening_L14 (f_X0_payBackInEvening_L2 (m + k + 1)) FUEL (nI i) (nI i + 1) V)) = some V' ∧ (if (sM Vm N 1 3) ≤ nI i then some (sM Vm N) else (f_X4_paysBack_L16 (f_X4_paysBack_L2 (m' + k + 1)) FUEL (nI i) (nI i + 1) (sM Vm N))) = some (sM Vm N') ∧ _
    rw [hO.1.1.1, if_neg (nI_ge hlt (by omega)), sM_1, hO.1.1.2.1, if_neg (nI_ge hlt (by omega))]
    obtain ⟨mf, hmf⟩ := FUEL_ge (k := k + 1) (by omega)
    obtain ⟨V1, N1, f1, f2, f3, f4, f5⟩ := pay_inner (T := T) hc (Vm := Vm) (w := i) (k0 := f_X0_payBackInEvening_L2 (m + k + 1)) (k1 := f_X4_paysBack_L2 (m' + k + 1)) k (i + 1) mf mf V N (by omega) (by omega) hO hC
    obtain ⟨V', N', e1, e2, e3, e4, e5⟩ := ih (i + 1) m m' V1 N1 (by omega) f3 f4
    rw [nI_1, hmf, show mf + (k + 1) = mf + k + 1 by omega, f1, f2, nI_1]
    exact ⟨V', N', e1, e2, e3, e4, fun j hj => (e5 j hj).trans (f5 j hj)⟩
theorem pay_sim {n d q : Nat} {T c : Int} (hc : c ≤ 200000000) {Vm V : FV} {N : Nat → Int32} (hO : Ok n d q T V N) (hC : Cl n c N) : ∃ (V' : FV) (N' : Nat → Int32), f_X0_payBackInEvening V = some V' ∧ f_X4_paysBack (sM Vm N) = some (sM Vm N') ∧ Ok n d q T V' N' ∧ Cl n c N' ∧ (∀ j, (j < 8 ∨ 152 ≤ j) → N' j = N j) := by
  have hb := hO.2.1
  obtain ⟨m, hm⟩ := FUEL_ge (k := n + 1) (by omega)
  unfold f_X0_payBackInEvening f_X4_paysBack
  rw [hm]
  exact pay_outer hc n 0 m m V N (by omega) hO hC
