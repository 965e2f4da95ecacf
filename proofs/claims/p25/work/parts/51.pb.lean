/-! ===== droughts and flows ===== -/
theorem fb_bit_set (n j i : Nat) : (n ||| 2 ^ j).testBit i = (n.testBit i || decide (i = j)) := by
  rw [Nat.testBit_or]
  by_cases h : j = i
  · subst h; simp
  · have h2 : ¬ i = j := fun e => h e.symm
    first | (simp [Nat.testBit_two_pow, h, h2]; done) | (simp [Nat.testBit_two_pow_of_ne h, h2]; done)
theorem fa_or (a b : Nat) : nI a ||| nI b = nI (a ||| b) := by
  apply Int32.toBitVec_inj.1
  show BitVec.ofNat 32 a ||| BitVec.ofNat 32 b = BitVec.ofNat 32 (a ||| b)
  apply BitVec.eq_of_getLsbD_eq
  intro i hi
  simp [hi]
theorem s_l : ∀ n, n < 32 → ((nI n &&& 31).toBitVec.smod 32).toNat = n := by decide +kernel
theorem sh_1 {w : Nat} (h : w < 12) : (1 : Int32) <<< (nI w &&& 31) = nI (2 ^ w) := by
  have hp : (2 : Nat) ^ w ≤ 2 ^ 12 := Nat.pow_le_pow_right (by decide) (by omega)
  rw [show (1 : Int32) = nI 1 from rfl, pk_shlN _ w (s_l w (by omega)) (by omega), Nat.one_mul]
theorem bit_of {mk w : Nat} (hm : mk < 4096) (hw : w < 12) : (nI mk >>> (nI w &&& 31)) &&& 1 = if mk.testBit w then 1 else 0 := by
  have h2 : mk / 2 ^ w ≤ mk := Nat.div_le_self _ _
  rw [pk_shrN (by omega) _ w (s_l w (by omega)), show (1 : Int32) = nI 1 from rfl, pk_andN (by omega) 1 rfl, Nat.testBit_eq_decide_div_mod_eq]
  rcases Nat.mod_two_eq_zero_or_one (mk / 2 ^ w) with h | h
  · rw [show (2 : Nat) ^ 1 = 2 from rfl, h]; rfl
  · rw [show (2 : Nat) ^ 1 = 2 from rfl, h]; rfl
def b2i (b : Bool) : Int32 := if b then 1 else 0
theorem ix_d (i : Nat) : (152 : Int32) + 3 * nI i = nI (152 + 3 * i) := by
  rw [show (152 : Int32) = nI 152 from rfl, show (3 : Int32) = nI 3 from rfl, pk_mul, nI_add]
theorem ix_q (i : Nat) : (212 : Int32) + 3 * nI i = nI (212 + 3 * i) := by
  rw [show (212 : Int32) = nI 212 from rfl, show (3 : Int32) = nI 3 from rfl, pk_mul, nI_add]
theorem nI_2 (a : Nat) : nI a + 2 = nI (a + 2) := nI_add a 2
theorem nI_3 (a : Nat) : nI a + 3 = nI (a + 3) := nI_add a 3
/-- a well has a drought at a time, by the first k of them -/
def dry (N : Nat → Int32) (w : Nat) (t : Int32) : Nat → Bool
  | 0 => false
  | k + 1 => dry N w t k || (decide (N (152 + 3 * k) = nI w) && (!decide (t < N (152 + 3 * k + 1)) && !decide (N (152 + 3 * k + 2) < t)))
theorem dry_s (N : Nat → Int32) (w : Nat) (t : Int32) (k : Nat) : dry N w t (k + 1) = (dry N w t k || (decide (N (152 + 3 * k) = nI w) && (!decide (t < N (152 + 3 * k + 1)) && !decide (N (152 + 3 * k + 2) < t)))) := rfl
theorem dry_congr {N M : Nat → Int32} (h : ∀ j, 152 ≤ j → j < 212 → N j = M j) (w : Nat) (t : Int32) : ∀ k, k ≤ 20 → dry N w t k = dry M w t k := by
  intro k
  induction k with
  | zero => intro _; rfl
  | succ k ih =>
    intro hk
    rw [dry_s, dry_s, ih (by omega), h _ (by omega) (by omega), h _ (by omega) (by omega), h _ (by omega) (by omega)]
theorem isDry_loop {V : FV} {d w : Nat} {t : Int32} (hd : V 1 4 = nI d) (hd20 : d ≤ 20) : ∀ (k i m : Nat), i + k = d → f_X4_isDry_L5 V (m + k + 1) (nI w) t (b2i (dry (V 1) w t i)) (nI i) = some (b2i (dry (V 1) w t d)) := by
  intro k
  induction k with
  | zero =>
    intro i m h
    have hi : i = d := by omega
    subst hi
    show (if (V 1 4) ≤ nI i then _ else _) = _
    rw [hd, if_pos (nI_le (Nat.le_refl i) (by omega))]
    cases dry (V 1) w t i
    · exact (congrArg (fun o : Option Unit => o.bind fun _ => some (b2i false)) bz_0)
    · exact (congrArg (fun o : Option Unit => o.bind fun _ => some (b2i true)) bz_1)
  | succ k ih =>
    intro i m h
    have e1 := ih (i + 1) m (by omega)
    rw [dry_s] at e1
    show (if (V 1 4) ≤ nI i then _ else (if b2i (dry (V 1) w t i) = 0 then _ else f_X4_isDry_L5 V (m + k + 1) (nI w) t 1 (nI i + 1))) = _
    rw [hd, if_neg (nI_ge (by omega) (by omega)), ix_d, nI_1, nI_1, nI_2, rd_nI (by omega) (by omega), rd_nI (by omega) (by omega), rd_nI (by omega) (by omega)]
    cases hdr : dry (V 1) w t i with
    | true =>
      rw [hdr] at e1
      rw [if_neg (by decide)]
      exact e1
    | false =>
      rw [hdr] at e1
      rw [if_pos (by decide), ob_s]
      by_cases c1 : V 1 (152 + 3 * i) = nI w
      · rw [if_pos c1, ob_s, ob_s]
        by_cases c2 : t < V 1 (152 + 3 * i + 1)
        · rw [in_n (Or.inl c2), ob_s, if_pos rfl]
          simp [c1, c2] at e1; exact e1
        · by_cases c3 : V 1 (152 + 3 * i + 2) < t
          · rw [in_n (Or.inr c3), ob_s, if_pos rfl]
            simp [c1, c2, c3] at e1; exact e1
          · rw [in_y c2 c3, ob_s, if_neg (by decide)]
            simp [c1, c2, c3] at e1; exact e1
      · rw [if_neg c1]
        simp [c1] at e1; exact e1
theorem isDry_eq {V : FV} {d w : Nat} {t : Int32} (hd : V 1 4 = nI d) (hd20 : d ≤ 20) : f_X4_isDry V (nI w) t = some (b2i (dry (V 1) w t d)) := by
  obtain ⟨m, hm⟩ := FUEL_ge (k := d + 1) (by omega)
  unfold f_X4_isDry
  rw [hm]
  exact isDry_loop hd hd20 d 0 m (by omega)
theorem dryWells_loop {n d q : Nat} {V : FV} {N : Nat → Int32} {t : Int32} (hR : Rel n d q V N) (hn : n ≤ 12) (hd20 : d ≤ 20) (hw : ∀ i, i < d → ∃ w, w < n ∧ N (152 + 3 * i) = nI w) : ∀ (k i m mk : Nat), i + k = d → mk < 4096 → (∀ w, w < 12 → mk.testBit w = dry N w t i) → ∃ mk', mk' < 4096 ∧ (∀ w, w < 12 → mk'.testBit w = dry N w t d) ∧ f_X0_dryWells_L4 V (m + k + 1) t (nI mk) (nI i) = some (nI mk') := by
  obtain ⟨⟨-, -, a3, -, -, -, -, -, -, -⟩, -, -, -, hD, -⟩ := hR
  intro k
  induction k with
  | zero =>
    intro i m mk h h1 h2
    have hi : i = d := by omega
    subst hi
    refine ⟨mk, h1, h2, ?_⟩
    show (if (V 0 1) ≤ nI i then _ else _) = _
    rw [a3, if_pos (nI_le (Nat.le_refl i) (by omega))]
  | succ k ih =>
    intro i m mk h h1 h2
    have hlt : i < d := by omega
    obtain ⟨w0, hw0, ew0⟩ := hw i hlt
    have e0 := hD i 0 hlt (by omega)
    have e1 := hD i 1 hlt (by omega)
    have e2 := hD i 2 hlt (by omega)
    show ∃ mk', mk' < 4096 ∧ (∀ w, w < 12 → mk'.testBit w = dry N w t d) ∧ (if (V 0 1) ≤ nI i then _ else ((rd 20 (V 20) (nI i)).bind fun x2 => (if t < x2 then f_X0_dryWells_L4 V (m + k + 1) t (nI mk) (nI i + 1) else ((rd 20 (V 21) (nI i)).bind fun x4 => (if x4 < t then f_X0_dryWells_L4 V (m + k + 1) t (nI mk) (nI i + 1) else ((rd 20 (V 19) (nI i)).bind fun x6 => f_X0_dryWells_L4 V (m + k + 1) t (nI mk ||| (1 <<< (x6 &&& 31))) (nI i + 1))))))) = some (nI mk')
    rw [a3, if_neg (nI_ge hlt (by omega)), nI_1, rd_nI (by omega) (by omega), rd_nI (by omega) (by omega), rd_nI (by omega) (by omega), ob_s, show V 20 i = N (152 + 3 * i + 1) from e1, show V 21 i = N (152 + 3 * i + 2) from e2, show V 19 i = N (152 + 3 * i) from e0]
    by_cases c2 : t < N (152 + 3 * i + 1)
    · rw [if_pos c2]
      exact ih (i + 1) m mk (by omega) h1 (fun w hw => by rw [dry_s, h2 w hw]; simp [c2])
    · rw [if_neg c2, ob_s]
      by_cases c3 : N (152 + 3 * i + 2) < t
      · rw [if_pos c3]
        exact ih (i + 1) m mk (by omega) h1 (fun w hw => by rw [dry_s, h2 w hw]; simp [c3])
      · rw [if_neg c3, ob_s, ew0, sh_1 (by omega), fa_or]
        have hp : (2 : Nat) ^ w0 < 2 ^ 12 := Nat.pow_lt_pow_right (by decide) (by omega)
        refine ih (i + 1) m (mk ||| 2 ^ w0) (by omega) (Nat.or_lt_two_pow (n := 12) h1 hp) (fun w hw => ?_)
        rw [dry_s, fb_bit_set, h2 w hw, ew0]
        by_cases cw : w = w0
        · subst cw; simp [c2, c3]
        · have : ¬ nI w0 = nI w := fun e => cw ((nI_eq (by omega) (by omega)).mp e).symm
          simp [cw, this]
theorem dryWells_eq {n d q : Nat} {V : FV} {N : Nat → Int32} {t : Int32} (hR : Rel n d q V N) (hn : n ≤ 12) (hd20 : d ≤ 20) (hw : ∀ i, i < d → ∃ w, w < n ∧ N (152 + 3 * i) = nI w) : ∃ mk, mk < 4096 ∧ (∀ w, w < 12 → mk.testBit w = dry N w t d) ∧ f_X0_dryWells V t = some (nI mk) := by
  obtain ⟨m, hm⟩ := FUEL_ge (k := d + 1) (by omega)
  unfold f_X0_dryWells
  rw [hm]
  exact dryWells_loop hR hn hd20 hw d 0 m 0 (by omega) (by omega) (fun w _ => by simp [dry])
theorem isDry_sim {n d q : Nat} {V Vm : FV} {w : Nat} {t : Int32} (hR : Rel n d q V (Vm 1)) (hn : n ≤ 12) (hd20 : d ≤ 20) (hD : ∀ i, i < d → ∃ w, w < n ∧ Vm 1 (152 + 3 * i) = nI w) (hw : w < 12) : f_X0_isDry V (nI w) t = some (b2i (dry (Vm 1) w t d)) ∧ f_X4_isDry Vm (nI w) t = some (b2i (dry (Vm 1) w t d)) := by
  refine ⟨?_, isDry_eq hR.1.2.2.2.1 hd20⟩
  obtain ⟨mk, h1, h2, h3⟩ := dryWells_eq (t := t) hR hn hd20 hD
  unfold f_X0_isDry
  rw [h3, ob_s, bit_of h1 hw, h2 w hw]
  cases dry (Vm 1) w t d
  · rfl
  · rfl
/-! flows -/
theorem roomIn_eq {n d q : Nat} {V : FV} {N : Nat → Int32} {w : Nat} (hR : Rel n d q V N) (hn : n ≤ 12) (hw : w < n) : f_X0_roomIn V (nI w) = some (N (8 + 12 * w + 1) - N (8 + 12 * w + 4)) := by
  unfold f_X0_roomIn
  rw [rd_nI (by omega) (by omega), ob_s, rd_nI (by omega) (by omega), ob_s, show V 7 w = N (8 + 12 * w + 1) from hR.2.1 w 1 hw (by omega), show V 10 w = N (8 + 12 * w + 4) from hR.2.1 w 4 hw (by omega)]
theorem WW.room {N : Nat → Int32} {w : Nat} (h : WW N w) : (N (8 + 12 * w + 1) - N (8 + 12 * w + 4)).toInt = (N (8 + 12 * w + 1)).toInt - (N (8 + 12 * w + 4)).toInt := by
  obtain ⟨-, -, h1, -, -, h2⟩ := h
  exact fb_subI (by omega) (by omega)
theorem ad_0 {N : Nat → Int32} {w k : Nat} {x : Int32} (hx : x = 0) : ad N w k x = N := by
  funext j
  rw [ad_at, hx]
  by_cases h : j = 8 + 12 * w + k
  · rw [if_pos h, Int32.add_zero]
  · rw [if_neg h]
theorem ad_put {N : Nat → Int32} {w k : Nat} {x : Int32} : ad N w k x = upd N (8 + 12 * w + k) (N (8 + 12 * w + k) + x) := rfl
/-- what a sim of two changes says of the worlds behind it -/
def Ok (n d q : Nat) (T : Int) (V : FV) (N : Nat → Int32) : Prop := Rel n d q V N ∧ Wf n d q T N
theorem flow_loop {n d q : Nat} {T : Int} {Vm : FV} {mk : Nat} (hm : mk < 4096) {t : Int32} : ∀ (k i m m' : Nat) (V : FV) (N : Nat → Int32), i + k = n → Ok n d q T V N → N 0 = t → (∀ w, w < 12 → mk.testBit w = dry N w t d) → ∃ (V' : FV) (N' : Nat → Int32), f_X0_flowIn_L11 (m + k + 1) (nI mk) (nI i) V = some V' ∧ f_X4_flows_L2 (m' + k + 1) (nI i) (sM Vm N) = some (sM Vm N') ∧ Ok n d q T V' N' ∧ (∀ j, (j < 8 ∨ 152 ≤ j) → N' j = N j) ∧ (∀ c, Cl n c N → Cl n c N') := by
  intro k
  induction k with
  | zero =>
    intro i m m' V N h hO h0 hmk
    have hi : i = n := by omega
    subst hi
    have hb := hO.2.1
    refine ⟨V, N, ?_, ?_, hO, fun j _ => rfl, fun c h => h⟩
    · show (if (V 0 0) ≤ nI i then _ else _) = _
      rw [hO.1.1.1, if_pos (nI_le (Nat.le_refl i) (by omega))]
    · show (if (sM Vm N 1 3) ≤ nI i then _ else _) = _
      rw [sM_1, hO.1.1.2.1, if_pos (nI_le (Nat.le_refl i) (by omega))]
  | succ k ih =>
    intro i m m' V N h hO h0 hmk
    have hb := hO.2.1
    have hlt : i < n := by omega
    have hW := hO.2.2.2.2.2.1 i hlt
    have hroom := hW.room
    have hdry : f_X4_isDry (sM Vm N) (nI i) (sM Vm N 1 0) = some (b2i (dry N i t d)) := by
      rw [sM_1, h0]
      exact isDry_eq (V := sM Vm N) hO.1.1.2.2.2.1 (by omega)
    show ∃ (V' : FV) (N' : Nat → Int32), (if (V 0 0) ≤ nI i then some V else (if ((nI mk >>> (nI i &&& 31)) &&& 1) = 0 then ((rd 12 (V 8) (nI i)).bind fun x4 => ((f_X0_roomIn V (nI i)).bind fun x5 => (lt1 (jmin x4 x5) fun x6 => ((rd 12 (V 10) (nI i)).bind fun x7 => ((wr 12 V 10 (nI i) (x7 + x6)).bind fun V8 => ((rd 12 (V8 12) (nI i)).bind fun x9 => ((wr 12 V8 12 (nI i) (x9 + x6)).bind fun V10 => ((rd 12 (V10 13) (nI i)).bind fun x11 => ((wr 12 V10 13 (nI i) (x11 + (x4 - x6))).bind fun V12 => (f_X0_flowIn_L11 (m + k + 1) (nI mk) (nI i + 1) V12)))))))))) else (f_X0_flowIn_L11 (m + k + 1) (nI mk) (nI i + 1) V))) = some V' ∧
      (if (sM Vm N 1 3) ≤ nI i then some (sM Vm N) else ((f_X4_isDry (sM Vm N) (nI i) (sM Vm N 1 0)).bind fun x2 => (if x2 = 0 then ((f_X4_of (sM Vm N) (nI i) 2).bind fun x4 => ((f_X4_room (sM Vm N) (nI i)).bind fun x5 => ((f_X4_least x4 x5).bind fun x6 => ((f_X4_adds (sM Vm N) (nI i) 4 x6).bind fun V7 => ((f_X4_adds V7 (nI i) 6 x6).bind fun V8 => ((f_X4_adds V8 (nI i) 7 (x4 - x6)).bind fun V9 => (f_X4_flows_L2 (m' + k + 1) (nI i + 1) V9))))))) else ((f_X4_room (sM Vm N) (nI i)).bind fun x10 => ((f_X4_least 0 x10).bind fun x11 => ((f_X4_adds (sM Vm N) (nI i) 4 x11).bind fun V12 => ((f_X4_adds V12 (nI i) 6 x11).bind fun V13 => ((f_X4_adds V13 (nI i) 7 (0 - x11)).bind fun V14 => (f_X4_flows_L2 (m' + k + 1) (nI i + 1) V14))))))))) = some (sM Vm N') ∧ _
    rw [hdry, hO.1.1.1, if_neg (nI_ge hlt (by omega)), sM_1, hO.1.1.2.1, if_neg (nI_ge hlt (by omega)), ob_s, bit_of hm (by omega), hmk i (by omega), room_eq (by omega), sM_1, ob_s, nI_1, show (4 : Int32) = nI 4 from rfl, show (6 : Int32) = nI 6 from rfl, show (7 : Int32) = nI 7 from rfl, show (2 : Int32) = nI 2 from rfl]
    cases hdr : dry N i t d with
    | true =>
      rw [if_neg (by decide), if_neg (by decide), least_eq, ob_s, adds_eqM (by omega) (by omega), ob_s, adds_eqM (by omega) (by omega), ob_s, adds_eqM (by omega) (by omega), ob_s]
      have hz : jmin 0 (N (8 + 12 * i + 1) - N (8 + 12 * i + 4)) = 0 := by
        unfold jmin
        obtain ⟨-, -, q1, -, -, q2⟩ := hW
        rw [if_neg (by rw [i_lt, hroom, i_0]; omega)]
      rw [hz, ad_0 rfl, ad_0 rfl, ad_0 (by decide)]
      exact ih (i + 1) m m' V N (by omega) hO h0 hmk
    | false =>
      rw [if_pos (by decide), if_pos (by decide), rd_nI (by omega) (by omega), ob_s, roomIn_eq hO.1 (by omega) hlt, ob_s, lt1_mk, rd_nI (by omega) (by omega), ob_s, wr_nI (by omega) (by omega), ob_s, rd_nI (by omega) (by omega), ob_s, wr_nI (by omega) (by omega), ob_s, rd_nI (by omega) (by omega), ob_s, wr_nI (by omega) (by omega), ob_s,
        of_eqM (by omega) (by omega), ob_s, ob_s, least_eq, ob_s, adds_eqM (by omega) (by omega), ob_s, adds_eqM (by omega) (by omega), ob_s, adds_eqM (by omega) (by omega), ob_s]
      rw [show V 8 i = N (8 + 12 * i + 2) from hO.1.2.1 i 2 hlt (by omega)]
      generalize hx : jmin (N (8 + 12 * i + 2)) (N (8 + 12 * i + 1) - N (8 + 12 * i + 4)) = x
      have hxi : 0 ≤ x.toInt ∧ x.toInt ≤ (N (8 + 12 * i + 1)).toInt - (N (8 + 12 * i + 4)).toInt := by
        obtain ⟨-, -, q1, q3, -, q2⟩ := hW
        rw [← hx, jmin_toInt, hroom]
        omega
      have hsum : (N (8 + 12 * i + 4) + x).toInt = (N (8 + 12 * i + 4)).toInt + x.toInt := by
        obtain ⟨-, -, q1, q3, -, q2⟩ := hW
        exact fb_addI (by omega) (by omega)
      have hR1 : Rel n d q (st V 10 i (V 10 i + x)) (ad N i 4 x) := by
        rw [show V 10 i = N (8 + 12 * i + 4) from hO.1.2.1 i 4 hlt (by omega)]
        exact hO.1.put (r := 4) (by omega) hlt (by omega) (by omega) _
      have hR2 : Rel n d q (st (st V 10 i (V 10 i + x)) 12 i (st V 10 i (V 10 i + x) 12 i + x)) (ad (ad N i 4 x) i 6 x) := by
        rw [show st V 10 i (V 10 i + x) 12 i = ad N i 4 x (8 + 12 * i + 6) from hR1.2.1 i 6 hlt (by omega)]
        exact hR1.put (r := 6) (by omega) hlt (by omega) (by omega) _
      have hR3 : Rel n d q (st (st (st V 10 i (V 10 i + x)) 12 i (st V 10 i (V 10 i + x) 12 i + x)) 13 i (st (st V 10 i (V 10 i + x)) 12 i (st V 10 i (V 10 i + x) 12 i + x) 13 i + (N (8 + 12 * i + 2) - x))) (ad (ad (ad N i 4 x) i 6 x) i 7 (N (8 + 12 * i + 2) - x)) := by
        rw [show st (st V 10 i (V 10 i + x)) 12 i (st V 10 i (V 10 i + x) 12 i + x) 13 i = ad (ad N i 4 x) i 6 x (8 + 12 * i + 7) from hR2.2.1 i 7 hlt (by omega)]
        exact hR2.put (r := 7) (by omega) hlt (by omega) (by omega) _
      have hW1 : Wf n d q T (ad N i 4 x) := hO.2.put hlt (by omega) (by omega) (by omega) (by omega) (fun _ => by
        obtain ⟨-, -, q1, q3, -, q2⟩ := hW
        rw [hsum]; omega)
      have hW2 : Wf n d q T (ad (ad N i 4 x) i 6 x) := hW1.put hlt (by omega) (by omega) (by omega) (by omega) (fun e => absurd e (by omega))
      have hW3 : Wf n d q T (ad (ad (ad N i 4 x) i 6 x) i 7 (N (8 + 12 * i + 2) - x)) := hW2.put hlt (by omega) (by omega) (by omega) (by omega) (fun e => absurd e (by omega))
      have hfar : ∀ j, (j < 8 ∨ 152 ≤ j) → ad (ad (ad N i 4 x) i 6 x) i 7 (N (8 + 12 * i + 2) - x) j = N j := fun j hj => by
        rw [ad_ne (by omega), ad_ne (by omega), ad_ne (by omega)]
      obtain ⟨V', N', e1, e2, e3, e4, e5⟩ := ih (i + 1) m m' _ _ (by omega) ⟨hR3, hW3⟩ (by rw [hfar 0 (by omega)]; exact h0) (fun w hw => by rw [hmk w hw]; exact dry_congr (fun j hj _ => (hfar j (by omega)).symm) w t d (by omega))
      exact ⟨V', N', e1, e2, e3, fun j hj => (e4 j hj).trans (hfar j hj), fun c hc => e5 c (((hc.put (by omega) (by omega)).put (by omega) (by omega)).put (by omega) (by omega))⟩
theorem flow_sim {n d q : Nat} {T : Int} {Vm V : FV} {N : Nat → Int32} (hO : Ok n d q T V N) : ∃ (V' : FV) (N' : Nat → Int32), f_X0_flowIn V = some V' ∧ f_X4_flows (sM Vm N) = some (sM Vm N') ∧ Ok n d q T V' N' ∧ (∀ j, (j < 8 ∨ 152 ≤ j) → N' j = N j) ∧ (∀ c, Cl n c N → Cl n c N') := by
  have hb := hO.2.1
  obtain ⟨mk, h1, h2, h3⟩ := dryWells_eq (t := V 0 3) hO.1 hb.1 hb.2.1 hO.2.2.2.2.2.2.1
  obtain ⟨m, hm⟩ := FUEL_ge (k := n + 1) (by omega)
  unfold f_X0_flowIn f_X4_flows
  rw [h3, ob_s, hm]
  exact flow_loop h1 n 0 m m V N (by omega) hO hO.1.1.2.2.2.2.2.2.1.symm h2
