/-! ===== the text "t9;d0,b;", and the empty one ===== -/
/-- a script in a run: where it reads, how many orders, where the last one began, what is wrong -/
def SC (V W : FV) (p o : Nat) (f r : Int32) : Prop := W 1 = V 1 ∧ W 0 0 = V 0 0 ∧ W 0 1 = nI p ∧ W 0 2 = nI o ∧ W 0 3 = f ∧ W 0 4 = r
theorem SC.st2 {V W : FV} {p o : Nat} {f r : Int32} (h : SC V W p o f r) (i : Nat) (x : Int32) : SC V (st W 2 i x) p o f r := by
  obtain ⟨h1, h2, h3, h4, h5, h6⟩ := h
  exact ⟨by rw [st_cell (by omega)]; exact h1, by rw [st_ne (by omega)]; exact h2, by rw [st_ne (by omega)]; exact h3, by rw [st_ne (by omega)]; exact h4, by rw [st_ne (by omega)]; exact h5, by rw [st_ne (by omega)]; exact h6⟩
theorem SC.at {V W : FV} {p o : Nat} {f r : Int32} (h : SC V W p o f r) (q : Nat) : SC V (st W 0 1 (nI q)) q o f r := by
  obtain ⟨h1, h2, h3, h4, h5, h6⟩ := h
  exact ⟨by rw [st_cell (by omega)]; exact h1, by rw [st_ne (by omega)]; exact h2, st_eq, by rw [st_ne (by omega)]; exact h4, by rw [st_ne (by omega)]; exact h5, by rw [st_ne (by omega)]; exact h6⟩
theorem isDig_y {c : Nat} (hc : c < 10) : f_X2_isDigit (nI (48 + c)) = some 1 := by
  unfold f_X2_isDigit
  rw [if_neg (fun e => by rw [i_lt, nI_toInt (by omega), show (48 : Int32).toInt = 48 from rfl] at e; omega), if_neg (fun e => by rw [i_lt, nI_toInt (by omega), show (57 : Int32).toInt = 57 from rfl] at e; omega)]
/-- a number of one digit -/
theorem num1 {V W : FV} {p o c i len : Nat} {f r d : Int32} (h : SC V W p o f r) (hlen : V 0 0 = nI len) (hp : p + 1 < len) (hl : len ≤ 60) (hc : c < 10) (e1 : V 1 p = nI (48 + c)) (e2 : V 1 (p + 1) = d) (hd : f_X2_isDigit d = some 0) (hi : i < 3) :
    f_X2_readNumber W (nI i) = some (1, st (st W 0 1 (nI (p + 1))) 2 i (nI c)) := by
  obtain ⟨m, hm⟩ := FUEL_ge (k := 2) (by omega)
  have s1 := h.at (p + 1)
  obtain ⟨m1, hm1⟩ : ∃ m1, m1 = m + 1 := ⟨_, rfl⟩
  have ex : (0 : Int32) * 10 + (nI (48 + c) - 48) = nI c := by
    have : nI (48 + c) - 48 = nI c := by rw [show (48 : Int32) = nI 48 from rfl, nI_subN (by omega)]; congr 1; omega
    rw [this]
    grind
  unfold f_X2_readNumber
  rw [hm, show m + 2 = m1 + 1 by omega]
  unfold f_X2_readNumber_L4
  rw [if_neg (by decide), h.2.1, hlen, h.2.2.1, if_neg (nI_ge (by omega) (by omega)), rd_nI (by omega) (by omega), ob_s, h.1, e1, isDig_y hc, ob_s, if_neg n10, ob_s, nI_1, lt1_mk, ex, hm1]
  unfold f_X2_readNumber_L4
  rw [if_neg (by decide), s1.2.1, hlen, s1.2.2.1, if_neg (nI_ge (by omega) (by omega)), rd_nI (by omega) (by omega), ob_s, s1.1, e2, hd, ob_s, if_pos rfl, wr_nI hi (by omega), ob_s, if_neg (by decide)]
/-- a sign behind a number, and the next number -/
theorem ordL {V W : FV} {p o c n k len : Nat} {f r d y1 : Int32} (h : SC V W p o f r) (hlen : V 0 0 = nI len) (hp : p + 1 < len) (hl : len ≤ 60) (hc : c < 10) (e1 : V 1 p = nI (48 + c)) (e2 : V 1 (p + 1) = d) (hk : k < n) (hn : n ≤ 3) (hd : d = if k = n - 1 then 59 else 44) (m : Nat) :
    f_X2_readOrder_L17 (m + 1) y1 (nI n) (nI k) W = f_X2_readOrder_L17 m y1 (nI n) (nI (k + 1)) (st (st (st W 0 1 (nI (p + 1))) 2 k (nI c)) 0 1 (nI (p + 2))) := by
  have hdig : f_X2_isDigit d = some 0 := by
    rw [hd]
    by_cases q : k = n - 1
    · rw [if_pos q]; rfl
    · rw [if_neg q]; rfl
  have hnum := num1 h hlen hp hl hc e1 e2 hdig (i := k) (by omega)
  have s1 := (h.at (p + 1)).st2 k (nI c)
  have en : nI n - 1 = nI (n - 1) := by rw [show (1 : Int32) = nI 1 from rfl, nI_subN (by omega)]
  obtain ⟨R, hR⟩ : ∃ R, R = f_X2_readOrder_L17 m y1 (nI n) (nI (k + 1)) (st (st (st W 0 1 (nI (p + 1))) 2 k (nI c)) 0 1 (nI (p + 2))) := ⟨_, rfl⟩
  rw [← hR]
  unfold f_X2_readOrder_L17
  rw [if_neg (nI_ge (by omega) (by omega)), if_neg (show ¬ (3 : Int32) ≤ nI k from nI_ge (b := 3) (by omega) (by omega)), en, hnum]
  by_cases q : k = n - 1
  · rw [if_pos q] at hd
    rw [if_pos (by rw [q]), b2_mk, if_neg n10, s1.2.1, hlen, s1.2.2.1, if_neg (nI_ge (by omega) (by omega)), rd_nI (by omega) (by omega), ob_s, s1.1, e2, if_pos hd, nI_1, nI_1, lt1_mk]
    exact hR.symm
  · rw [if_neg q] at hd
    rw [if_neg (fun e => q ((nI_eq (by omega) (by omega)).mp e)), b2_mk, if_neg n10, s1.2.1, hlen, s1.2.2.1, if_neg (nI_ge (by omega) (by omega)), rd_nI (by omega) (by omega), ob_s, s1.1, e2, if_pos hd, nI_1, nI_1, lt1_mk]
    exact hR.symm
theorem ordE {n : Nat} {y1 : Int32} {W : FV} (h0 : 0 < n) (hn : n ≤ 3) (m : Nat) : f_X2_readOrder_L17 (m + 1) y1 (nI n) (nI n) W = some (1, W) := by
  unfold f_X2_readOrder_L17
  rw [if_pos (nI_le (Nat.le_refl _) (by omega)), if_neg (nI_nle h0 (by omega))]
/-- "t9;" -/
theorem ord_t {V W : FV} {p o len c : Nat} {f r : Int32} (h : SC V W p o f r) (hlen : V 0 0 = nI len) (hp : p + 2 < len) (hl : len ≤ 60) (hc : c < 10) (e1 : V 1 (p + 1) = nI (48 + c)) (e2 : V 1 (p + 2) = 59) : ∃ W', f_X2_readOrder W 116 = some (1, W') ∧ SC V W' (p + 3) o f r ∧ W' 2 0 = nI c := by
  obtain ⟨m, hm⟩ := FUEL_ge (k := 2) (by omega)
  have s1 := h.at (p + 1)
  refine ⟨_, ?_, (((s1.at (p + 2)).st2 0 (nI c)).at (p + 3)), ?_⟩
  · unfold f_X2_readOrder
    rw [h.2.2.1, nI_1, lt1_mk, show f_X2_numbersOf 116 = some (nI 1) from rfl, ob_s, hm]
    rw [show (0 : Int32) = nI 0 from rfl, ordL s1 hlen (by omega) hl hc e1 e2 (k := 0) (n := 1) (by omega) (by omega) (by rw [if_pos rfl]) (m + 1), ordE (by omega) (by omega)]
  · rw [st_ne (by omega), st_eq]
/-- "d0,b;" -/
theorem ord_d {V W : FV} {p o len c b : Nat} {f r : Int32} (h : SC V W p o f r) (hlen : V 0 0 = nI len) (hp : p + 4 < len) (hl : len ≤ 60) (hc : c < 10) (hb : b < 10) (e1 : V 1 (p + 1) = nI (48 + c)) (e2 : V 1 (p + 2) = 44) (e3 : V 1 (p + 3) = nI (48 + b)) (e4 : V 1 (p + 4) = 59) : ∃ W', f_X2_readOrder W 100 = some (1, W') ∧ SC V W' (p + 5) o f r ∧ W' 2 0 = nI c ∧ W' 2 1 = nI b := by
  obtain ⟨m, hm⟩ := FUEL_ge (k := 3) (by omega)
  have s1 := h.at (p + 1)
  have s2 := ((s1.at (p + 2)).st2 0 (nI c)).at (p + 3)
  refine ⟨_, ?_, (((s2.at (p + 4)).st2 1 (nI b)).at (p + 5)), ?_, ?_⟩
  · unfold f_X2_readOrder
    rw [h.2.2.1, nI_1, lt1_mk, show f_X2_numbersOf 100 = some (nI 2) from rfl, ob_s, hm]
    rw [show (0 : Int32) = nI 0 from rfl, ordL s1 hlen (by omega) hl hc e1 e2 (k := 0) (n := 2) (by omega) (by omega) (by rw [if_neg (by omega)]) (m + 2),
      ordL s2 hlen (by omega) hl hb e3 e4 (k := 1) (n := 2) (by omega) (by omega) (by rw [if_pos (by omega)]) (m + 1), ordE (by omega) (by omega)]
  · rw [st_ne (by omega), st_ne (by omega), st_ne (by omega), st_ne (by omega), st_eq]
  · rw [st_ne (by omega), st_eq]
theorem run_start {U V : FV} : f_X2_runOn U V = f_X2_runOn_L22 FUEL 0 U (st (st (st (st V 0 2 0) 0 3 0) 0 4 0) 0 1 0) ∧ SC V (st (st (st (st V 0 2 0) 0 3 0) 0 4 0) 0 1 0) 0 0 0 0 := by
  refine ⟨rfl, ?_, ?_, st_eq, ?_, ?_, ?_⟩
  · rw [st_cell (by omega), st_cell (by omega), st_cell (by omega), st_cell (by omega)]
  · rw [st_ne (by omega), st_ne (by omega), st_ne (by omega), st_ne (by omega)]
  · rw [st_ne (by omega), st_ne (by omega), st_ne (by omega), st_eq]; rfl
  · rw [st_ne (by omega), st_ne (by omega), st_eq]
  · rw [st_ne (by omega), st_eq]
theorem run_end {U V W : FV} {p o i len : Nat} {f r : Int32} (h : SC V W p o f r) (hlen : V 0 0 = nI len) (hp : len ≤ p) (hp2 : p ≤ 100) (hi : i < 60) (m : Nat) : f_X2_runOn_L22 (m + 1) (nI i) U W = some (U, W) := by
  unfold f_X2_runOn_L22
  rw [if_neg (show ¬ (60 : Int32) ≤ nI i from nI_ge (b := 60) hi (by omega)), h.2.1, hlen, h.2.2.1, if_pos (nI_le hp (by omega))]
theorem SC.fault {V W : FV} {p o : Nat} {f r : Int32} (h : SC V W p o f r) (x : Int32) : SC V (st W 0 3 x) p o x r := by
  obtain ⟨h1, h2, h3, h4, h5, h6⟩ := h
  exact ⟨by rw [st_cell (by omega)]; exact h1, by rw [st_ne (by omega)]; exact h2, by rw [st_ne (by omega)]; exact h3, by rw [st_ne (by omega)]; exact h4, st_eq, by rw [st_ne (by omega)]; exact h6⟩
theorem SC.why {V W : FV} {p o : Nat} {f r : Int32} (h : SC V W p o f r) (x : Int32) : SC V (st W 0 4 x) p o f x := by
  obtain ⟨h1, h2, h3, h4, h5, h6⟩ := h
  exact ⟨by rw [st_cell (by omega)]; exact h1, by rw [st_ne (by omega)]; exact h2, by rw [st_ne (by omega)]; exact h3, by rw [st_ne (by omega)]; exact h4, by rw [st_ne (by omega)]; exact h5, st_eq⟩
theorem SC.more {V W : FV} {p o : Nat} {f r : Int32} (h : SC V W p o f r) : SC V (st W 0 2 (nI (o + 1))) p (o + 1) f r := by
  obtain ⟨h1, h2, h3, h4, h5, h6⟩ := h
  exact ⟨by rw [st_cell (by omega)]; exact h1, by rw [st_ne (by omega)]; exact h2, by rw [st_ne (by omega)]; exact h3, st_eq, by rw [st_ne (by omega)]; exact h5, by rw [st_ne (by omega)]; exact h6⟩
theorem run_step {U V W Y' U' : FV} {p o i len : Nat} {f x L : Int32} (h : SC V W p o f 0) (hlen : V 0 0 = nI len) (hp : p < len) (hl : len ≤ 60) (hi : i < 60) (eL : V 1 p = L) (hrd : f_X2_readOrder (st W 0 3 (nI p)) L = some (1, Y')) (hdo : f_X2_doOrder U Y' L = some (x, (U', Y'))) (m : Nat) :
    f_X2_runOn_L22 (m + 1) (nI i) U W = if 0 ≤ x then f_X2_runOn_L22 m (nI (i + 1)) U' (st Y' 0 2 ((Y' 0 2) + 1)) else if x = -1 then some (U', st Y' 0 4 2) else some (U', st Y' 0 4 3) := by
  show (if 60 ≤ nI i then some (U, W) else (if (W 0 0) ≤ (W 0 1) then some (U, W) else (lt1 (st W 0 3 (W 0 1)) fun V7 => ((rd 60 (V7 1) (V7 0 1)).bind fun x8 => (b2 (f_X2_readOrder V7 x8) fun x9 V9 => (if x9 = 0 then (lt1 (st V9 0 4 1) fun V17 => some ((U, V17))) else (b2 (f_X2_doOrder U V9 x8) fun x11 t11 => (if 0 ≤ x11 then (lt1 (st t11.2 0 2 ((t11.2 0 2) + 1)) fun V13 => (f_X2_runOn_L22 m (nI i + 1) t11.1 V13)) else (if x11 = ((-1)) then (lt1 (st t11.2 0 4 2) fun V16 => some ((t11.1, V16))) else (lt1 (st t11.2 0 4 3) fun V15 => some ((t11.1, V15)))))))))))) = _
  have s := h.fault (nI p)
  rw [if_neg (show ¬ (60 : Int32) ≤ nI i from nI_ge (b := 60) hi (by omega)), h.2.1, hlen, h.2.2.1, if_neg (nI_ge hp (by omega)), lt1_mk, s.2.2.1, rd_nI (by omega) (by omega), ob_s, s.1, eL, hrd, b2_mk, if_neg n10, hdo, b2_mk, nI_1]
  rfl
/-- the text of the law -/
def TX (b : Nat) : List Nat := [116, 57, 59, 100, 48, 44, 48 + b, 59]
theorem run_TX {U v3 : FV} {N : NN} {b : Nat} (hb : b < 10) (hK : K2 U N) (hn : 0 < nW N) (hT : (N 0).toInt + 9 ≤ 50000) (hX : TXT (TX b) v3) : ∃ U' w, f_X2_runOn U v3 = some (U', w) ∧ w 1 = v3 1 ∧ w 0 0 = v3 0 0 ∧
    ((b = 0 → w 0 4 = 2 ∧ w 0 3 = 3) ∧ (0 < b → abl (itN 9 N) 0 12 0 < b → w 0 4 = 3 ∧ w 0 3 = 3) ∧ (0 < b → (b : Int) ≤ abl (itN 9 N) 0 12 0 → w 0 4 = 0 ∧ w 0 2 = 2 ∧ K2 U' (dwN (itN 9 N) (nW N) 0 (nI b) z0))) := by
  obtain ⟨-, hlen, hch⟩ := hX
  have hlen : v3 0 0 = nI 8 := hlen
  have h0 : v3 1 0 = 116 := hch 0 (by simp [TX])
  have h1 : v3 1 1 = nI (48 + 9) := hch 1 (by simp [TX])
  have h2 : v3 1 2 = 59 := hch 2 (by simp [TX])
  have h3 : v3 1 3 = 100 := hch 3 (by simp [TX])
  have h4 : v3 1 4 = nI (48 + 0) := hch 4 (by simp [TX])
  have h5 : v3 1 5 = 44 := hch 5 (by simp [TX])
  have h6 : v3 1 6 = nI (48 + b) := hch 6 (by simp [TX])
  have h7 : v3 1 7 = 59 := hch 7 (by simp [TX])
  obtain ⟨m, hm⟩ := FUEL_ge (k := 3) (by omega)
  obtain ⟨er, s0⟩ := run_start (U := U) (V := v3)
  obtain ⟨Y1, y1, y2, y3⟩ := ord_t (s0.fault (nI 0)) hlen (by omega) (by omega) (c := 9) (by omega) h1 h2
  obtain ⟨U1, u1, u2, u3, -⟩ := pass_K2 (P := 9) (by omega) (by omega) hK hT
  have d1 : f_X2_doOrder U Y1 116 = some (nI (nQ N - nQ (itN 9 N)), (U1, Y1)) := by
    unfold f_X2_doOrder
    rw [if_neg (by decide), if_neg (by decide), if_neg (by decide), if_pos rfl, y3, u1, b2_mk]
  have st1 := run_step s0 hlen (p := 0) (i := 0) (by omega) (by omega) (by omega) h0 y1 d1 (m + 2)
  have hx0 : (0 : Int32) ≤ nI (nQ N - nQ (itN 9 N)) := nI_le (a := 0) (by omega) (by have := hK.b; omega)
  have y2o : Y1 0 2 = nI 0 := y2.2.2.2.1
  rw [if_pos hx0, y2o, nI_1] at st1
  have s1 := y2.more
  obtain ⟨Y2, z1, z2, z3, z4⟩ := ord_d (s1.fault (nI 3)) hlen (by omega) (by omega) (c := 0) (b := b) (by omega) hb h4 h5 h6 h7
  have nW9 : nW (itN 9 N) = nW N := u3.well
  have b9 : (nI b).toInt = b := nI_toInt (by omega)
  have fin : ∀ (x : Int32) (U2 : FV), f_X0_takeDraw U1 (nI 0) (nI b) = some (x, U2) → f_X2_runOn U v3 = (if 0 ≤ x then f_X2_runOn_L22 (m + 1) (nI 2) U2 (st Y2 0 2 ((Y2 0 2) + 1)) else if x = -1 then some (U2, st Y2 0 4 2) else some (U2, st Y2 0 4 3)) := by
    intro x U2 hd
    have d2 : f_X2_doOrder U1 Y2 100 = some (x, (U2, Y2)) := by
      unfold f_X2_doOrder
      rw [if_pos rfl, z3, z4, hd, b2_mk]
    have st2 := run_step s1 hlen (p := 3) (i := 1) (by omega) (by omega) (by omega) h3 z1 d2 (m + 1)
    rw [er, hm]
    exact st1.trans st2
  have hn9 : 0 < nW (itN 9 N) := by omega
  rcases Nat.eq_zero_or_pos b with c0 | c0
  · subst c0
    have hd := draw_bad2 u2 (w := 0) hn9 (b := nI 0) (by rw [b9]; omega)
    have hf := fin _ _ hd
    rw [if_neg (by decide), if_pos rfl] at hf
    have s := z2.why 2
    exact ⟨_, _, hf, s.1, s.2.1, fun _ => ⟨s.2.2.2.2.2, s.2.2.2.2.1⟩, fun h => absurd h (by omega), fun h => absurd h (by omega)⟩
  · rcases int_lg (abl (itN 9 N) 0 12 0) b with c | c
    · obtain ⟨U2, hd, -⟩ := draw_no u2 (w := 0) hn9 (b := nI b) (by rw [b9]; omega) (by rw [b9]; omega) (by rw [b9]; exact c)
      have hf := fin _ _ hd
      rw [if_neg (by decide), if_neg (by decide)] at hf
      have s := z2.why 3
      exact ⟨_, _, hf, s.1, s.2.1, fun h => absurd h (by omega), fun _ _ => ⟨s.2.2.2.2.2, s.2.2.2.2.1⟩, fun _ h => absurd h (by omega)⟩
    · obtain ⟨U2, hd, hK2⟩ := draw_K2 u2 (w := 0) hn9 (b := nI b) (by rw [b9]; omega) (by rw [b9]; omega) (by rw [b9]; exact c)
      have hw4 := (u2.2.1.2.2.2.2.1 0 hn9).2.2.2.2.2
      have hx : (0 : Int32) ≤ nI b - jmin (nI b) (itN 9 N (8 + 12 * 0 + 4)) := by
        rw [i_le, i_0, fb_subI (by rw [jmin_toInt]; omega) (by rw [jmin_toInt]; omega), jmin_toInt]
        omega
      have hf := fin _ _ hd
      have zo : Y2 0 2 = nI 1 := z2.2.2.2.1
      have s := z2.more
      rw [if_pos hx, zo, nI_1, run_end s hlen (by omega) (by omega) (by omega) m] at hf
      rw [nW9] at hK2
      exact ⟨_, _, hf, s.1, s.2.1, fun h => absurd h (by omega), fun _ h => absurd h (by omega), fun _ _ => ⟨s.2.2.2.2.2, s.2.2.2.1, hK2⟩⟩
theorem run_nil {U v3 : FV} (hX : TXT [] v3) : ∃ w, f_X2_runOn U v3 = some (U, w) ∧ w 1 = v3 1 ∧ w 0 0 = v3 0 0 ∧ w 0 4 = 0 ∧ w 0 2 = 0 := by
  obtain ⟨m, hm⟩ := FUEL_ge (k := 1) (by omega)
  obtain ⟨er, s0⟩ := run_start (U := U) (V := v3)
  refine ⟨_, ?_, s0.1, s0.2.1, s0.2.2.2.2.2, s0.2.2.2.1⟩
  rw [er, hm]
  exact run_end (i := 0) s0 (len := 0) hX.2.1 (by omega) (by omega) (by omega) m
