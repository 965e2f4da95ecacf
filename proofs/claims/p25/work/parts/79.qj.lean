section CJ
variable {V : FV} {N : NN}
/-! requests -/
def rqN (N : NN) (q w : Nat) (b : Int32) : NN := upd (upd (upd (upd N (212 + 3 * q) (nI w)) (212 + 3 * q + 1) b) (212 + 3 * q + 2) (N 0)) 5 (nI (q + 1))
theorem rqN_far {q w j : Nat} {b : Int32} (h5 : j ≠ 5) (h : j < 212 + 3 * q ∨ 215 + 3 * q ≤ j) : rqN N q w b j = N j := by
  unfold rqN
  rw [upd_ne h5, upd_ne (by omega), upd_ne (by omega), upd_ne (by omega)]
/-- the row takes it -/
theorem request_wait (h : K2 V N) (hq : nQ N < 8) {w : Nat} (hw : w < nW N) {b : Int32} (h1 : 1 ≤ b.toInt) (h2 : b.toInt ≤ 999) (hp : nQ N = 0 → abl N w 12 w < b.toInt) : ∃ V', f_X0_takeRequest V (nI w) b = some (nI (nQ N + 1), V') ∧ K2 V' (rqN N (nQ N) w b) := by
  obtain ⟨n, d, q, en, ed, eq, hR, hW, hC, hS, hQ⟩ := h.get
  have hw' := hw
  rw [eq] at hq hp ⊢
  rw [en] at hw
  have hb := hW.1
  have app : ∀ V1 : FV, Rel n d q V1 N → SV V1 → ∃ V', (if (V1 0 2) < 8 then ((wr 8 V1 22 (V1 0 2) (nI w)).bind fun V7 => ((wr 8 V7 23 (V7 0 2) b).bind fun V8 => ((wr 8 V8 24 (V8 0 2) (V8 0 3)).bind fun V9 => (lt1 (st V9 0 2 ((V9 0 2) + 1)) fun V10 => some (V10 0 2, V10))))) else some ((-3), V1)) = some (nI (q + 1), V') ∧ K2 V' (rqN N q w b) := by
    intro V1 hR1 hS1
    have e2 : V1 0 2 = nI q := hR1.1.2.2.2.2.1
    have e3 : V1 0 3 = N 0 := hR1.1.2.2.2.2.2.2.1
    have hR' := hR1.req hb.1 hb.2.1 hq (nI w) b (N 0)
    have hW' := hW.req hq hw ⟨h1, h2⟩ (c := N 0)
    refine ⟨_, ?_, K2.of hR' ⟨hW', ?_, ?_, ?_⟩⟩
    · rw [e2, show (8 : Int32) = nI 8 from rfl, if_pos (nI_lt hq (by omega)), wr_nI (by omega) (by omega), ob_s,
        show st V1 22 q (nI w) 0 2 = nI q from e2, wr_nI (by omega) (by omega), ob_s, show st (st V1 22 q (nI w)) 23 q b 0 2 = nI q from e2, show st (st V1 22 q (nI w)) 23 q b 0 3 = N 0 from e3, wr_nI (by omega) (by omega), ob_s, lt1_mk,
        show st (st (st V1 22 q (nI w)) 23 q b) 24 q (N 0) 0 2 = nI q from e2, nI_1, st_eq]
    · rw [show rqN N q w b 0 = N 0 from rqN_far (by omega) (by omega)]
      exact hC.far (fun w hw => rqN_far (by omega) (by omega))
    · exact (SS_iff hR' hb.1).mp (hS1.congr (fun c j h1 h2 _ => by rw [st_ne (by omega), st_ne (by omega), st_ne (by omega), st_ne (by omega)]))
    · have e0 : rqN N q w b 0 = N 0 := rqN_far (by omega) (by omega)
      have eq2 : rqN N q w b (212 + 3 * q + 2) = N 0 := by
        unfold rqN
        rw [upd_ne (by omega), upd_eq]
      have el : ∀ i, i < q → rqN N q w b (212 + 3 * i + 2) = N (212 + 3 * i + 2) := fun i hi => rqN_far (by omega) (by omega)
      refine ⟨fun i hi => ?_, fun i hi => ?_⟩
      · show (rqN N q w b (212 + 3 * i + 2)).toInt ≤ (rqN N q w b 0).toInt
        rw [e0]
        by_cases c : i = q
        · rw [c, eq2]; exact Int.le_refl _
        · rw [el i (by omega)]; exact hQ.1 i (by omega)
      · show (rqN N q w b (212 + 3 * i + 2)).toInt ≤ (rqN N q w b (212 + 3 * (i + 1) + 2)).toInt
        rw [el i (by omega)]
        by_cases c : i + 1 = q
        · rw [c, eq2]; exact hQ.1 i (by omega)
        · rw [el (i + 1) (by omega)]; exact hQ.2 i (by omega)
  have hSV := (SS_iff hR hb.1).mpr hS
  have e2 : V 0 2 = nI q := hR.1.2.2.2.2.1
  unfold f_X0_takeRequest
  rw [isW_y h hw', ob_s, if_neg n10, areB_eq, ob_s, bk_y h1 h2, if_neg n10]
  by_cases cq : q = 0
  · have hp := hp cq
    have hs := share_toInt (w0 := w) (n := n) (d := d) (q := q) (T := 50000) ⟨hR, hW⟩ hw (b := b) (by omega)
    rw [if_pos (by rw [e2, cq]; rfl), share_eq (n := n) (d := d) (q := q) (T := 50000) ⟨hR, hW⟩ hw, b2_mk, if_neg (by rw [i_eq, hs]; omega)]
    exact app _ hR.sS (hSV.congr (fun c j h1 h2 _ => by rw [sS_ne (by omega)]))
  · rw [if_neg (show ¬ V 0 2 = 0 by rw [e2]; exact nI_ne0 (by omega) (by omega))]
    exact app V hR hSV
/-- the row is full -/
theorem request_full (h : K2 V N) (hq : nQ N = 8) {w : Nat} (hw : w < nW N) {b : Int32} (h1 : 1 ≤ b.toInt) (h2 : b.toInt ≤ 999) : f_X0_takeRequest V (nI w) b = some (-3, V) := by
  have e2 : V 0 2 = nI 8 := by rw [← hq]; exact h.1.1.2.2.2.2.1
  unfold f_X0_takeRequest
  rw [isW_y h hw, ob_s, if_neg n10, areB_eq, ob_s, bk_y h1 h2, if_neg n10, if_neg (show ¬ V 0 2 = 0 by rw [e2]; decide), if_neg (show ¬ V 0 2 < 8 by rw [e2]; decide)]
/-- it is drawn at once -/
theorem request_now (h : K2 V N) (hq : nQ N = 0) {w : Nat} (hw : w < nW N) {b : Int32} (h1 : 1 ≤ b.toInt) (h2 : b.toInt ≤ 999) (hp : b.toInt ≤ abl N w 12 w) : ∃ V', f_X0_takeRequest V (nI w) b = some (0, V') ∧ K2 V' (dwN N (nW N) w b z0) := by
  obtain ⟨V', e, hK⟩ := draw_K2 h hw h1 h2 hp
  refine ⟨V', ?_, hK⟩
  have e2 : V 0 2 = 0 := by
    have := h.1.1.2.2.2.2.1
    rw [hq] at this
    exact this
  have hs := share_toInt h.ok hw (b := b) (by omega)
  have hy : b - shl N w 12 w b = b := by rw [i_eq, hs]; omega
  unfold f_X0_takeDraw at e
  rw [isW_y h hw, ob_s, if_neg n10, areB_eq, ob_s, bk_y h1 h2, if_neg n10, share_eq h.ok hw, b2_mk, if_pos hy] at e
  obtain ⟨x7, V7, e7, e⟩ := b2_some e
  have eV : V7 = V' := some_snd e
  subst eV
  unfold f_X0_takeRequest
  rw [isW_y h hw, ob_s, if_neg n10, areB_eq, ob_s, bk_y h1 h2, if_neg n10, if_pos e2, share_eq h.ok hw, b2_mk, if_pos hy, e7, b2_mk]
theorem request_bad (h : K2 V N) {p b : Int32} (hp : p < 0 ∨ nI (nW N) ≤ p) : f_X0_takeRequest V p b = some (-1, V) := by
  unfold f_X0_takeRequest
  rw [isW_n h hp, ob_s, if_pos rfl]
/-! cancelling -/
theorem dropL_far : ∀ (f : Nat) (y1 y2 y3 : Int32) (V : FV) (r : Int32) (V' : FV), f_X0_dropRequest_L23 f y1 y2 y3 V = some (r, V') → ∀ c, 0 < c → c < 22 → V' c = V c := by
  intro f
  induction f with
  | zero => intro y1 y2 y3 V r V' h; cases h
  | succ f ih =>
    intro y1 y2 y3 V r V' h c h0 hc
    unfold f_X0_dropRequest_L23 at h
    by_cases c1 : (V 0 2) ≤ y3
    · replace h := ite_t c1 h
      obtain ⟨V5, rfl, h⟩ := lt1_some h
      cases h
      exact st_cell (by omega)
    · replace h := ite_f c1 h
      obtain ⟨V6, e6, h⟩ := b1_some h
      exact (ih _ _ _ _ _ _ h c h0 hc).trans (move_far e6 hc)
theorem cancel_K2 (h : K2 V N) {k : Nat} (hk : k < nQ N) : ∃ V' N', f_X0_dropRequest V (nI (k + 1)) = some (N (212 + 3 * k + 1), V') ∧ K2 V' N' ∧ N' 5 = nI (nQ N - 1) ∧ N' 0 = N 0 := by
  obtain ⟨n, d, q, en, ed, eq, hR, hW, hC, hS, hQ⟩ := h.get
  rw [eq] at hk ⊢
  have hb := hW.1
  have hO : Ok n d q 50000 V N := ⟨hR, hW⟩
  obtain ⟨V', N', e1, e2, e3, e4, e5⟩ := drop_sim hO hk
  have el := leaves_eq (Vm := ZV) (N := N) (k := k) (c := q - 1) (by omega) (by omega) (by rw [hR.1.2.2.2.2.2.1]; congr 1; omega)
  have eN := sM_inj (some_one ((e2 ZV).symm.trans el))
  have hSV : SV V' := by
    refine ((SS_iff hR hb.1).mpr hS).congr (fun c j h1 h2 _ => ?_)
    have h := e1
    unfold f_X0_dropRequest at h
    rw [x0_place_y hR hb.2.2 hk, ob_s, if_neg n10] at h
    obtain ⟨x3, -, -, h⟩ := rd_some h
    rw [dropL_far _ _ _ _ _ _ _ h c (by omega) (by omega)]
  refine ⟨V', N', e1, K2.of e3.1 ⟨e3.2, by rw [e5]; exact e4 _ hC, (SS_iff e3.1 hb.1).mp hSV, ?_⟩, e3.1.1.2.2.2.2.2.1, e5⟩
  rw [eN]
  exact RQ.leave (by rw [show q - 1 + 1 = q by omega]; exact hQ) (by omega) (by omega)
theorem cancel_bad (h : K2 V N) {p : Int32} (hp : p < 1 ∨ nI (nQ N) < p) : f_X0_dropRequest V p = some (-1, V) := by
  unfold f_X0_dropRequest
  rw [x0_place_n h.1 hp, ob_s, if_pos rfl]
/-! settings -/
theorem set_K2 (h : K2 V N) (p1 p2 : Int32) : f_X0_changeSetting V p1 p2 = some (-1, V) ∨ ∃ (r : Int32) (V' : FV) (N' : NN), f_X0_changeSetting V p1 p2 = some (r, V') ∧ K2 V' N' ∧ N' 0 = N 0 ∧ 0 ≤ r.toInt := by
  have i4 : (4 : Int32).toInt = 4 := rfl
  have i100 : (100 : Int32).toInt = 100 := rfl
  have hW := h.2.1
  have fin : ∀ (V' : FV) (N' : NN), Ok (nW N) (nD N) (nQ N) 50000 V' N' → (∀ j, 3 ≤ j → N' j = N j) → N' 0 = N 0 → (∀ c, 4 < c → V' c = V c) → K2 V' N' := by
    intro V' N' hO' hj h0 hc
    refine K2.of hO'.1 ⟨hO'.2, ?_, (SS_iff hO'.1 h.b.1).mp (((SS_iff h.1 h.b.1).mpr h.2.2.2.1).congr (fun c j h1 h2 _ => by rw [hc c (by omega)])), ?_⟩
    · rw [h0]; exact h.2.2.1.far (fun w hw => hj _ (by omega))
    · exact h.2.2.2.2.congr (by rw [h0]; exact Int.le_refl _) (fun i hi => hj _ (by omega))
  by_cases c0 : p1 = 0
  · subst c0
    by_cases c1 : p2 < 4
    · exact Or.inl (if_pos c1)
    · by_cases c2 : 100 < p2
      · left
        unfold f_X0_changeSetting
        rw [if_pos rfl, if_neg c1, if_pos c2]
      · right
        have hx : 4 ≤ p2.toInt ∧ p2.toInt ≤ 100 := by rw [i_lt, i4] at c1; rw [i_lt, i100] at c2; omega
        refine ⟨N 1, _, _, ?_, fin _ _ (h.ok.set0 hx) (fun j hj => upd_ne (by omega)) (upd_ne (by omega)) (fun c hc => st_cell (by omega)), upd_ne (by omega), by have := hW.2.2.1; omega⟩
        unfold f_X0_changeSetting
        rw [if_pos rfl, if_neg c1, if_neg c2, show (0 : Int32) = nI 0 from rfl, rd_nI (by omega) (by omega), ob_s, wr_nI (by omega) (by omega), ob_s, h.1.1.2.2.2.2.2.2.2.1]
  · by_cases c9 : p1 = 1
    · subst c9
      by_cases c1 : p2 = 0 ∨ p2 = 1
      · right
        refine ⟨N 2, _, _, ?_, fin _ _ (h.ok.set1 c1) (fun j hj => upd_ne (by omega)) (upd_ne (by omega)) (fun c hc => st_cell (by omega)), upd_ne (by omega), by rcases hW.2.2.2.1 with e | e <;> rw [e] <;> decide⟩
        unfold f_X0_changeSetting
        have e : ((rd 2 (V 4) 1).bind fun x4 => ((wr 2 V 4 1 p2).bind fun V5 => some (x4, V5))) = some (N 2, st V 4 1 p2) := by
          rw [show (1 : Int32) = nI 1 from rfl, rd_nI (by omega) (by omega), ob_s, wr_nI (by omega) (by omega), ob_s, h.1.1.2.2.2.2.2.2.2.2.1]
        rw [if_neg (by decide), if_pos rfl, e]
        rcases c1 with rfl | rfl
        · rw [if_pos rfl]
        · rw [if_neg (by decide), if_pos rfl]
      · left
        unfold f_X0_changeSetting
        rw [if_neg (by decide), if_pos rfl, if_neg (fun e => c1 (Or.inl e)), if_neg (fun e => c1 (Or.inr e))]
    · left
      unfold f_X0_changeSetting
      rw [if_neg c0, if_neg c9]
theorem set_bad {p1 p2 : Int32} (hb : (p1 = 0 ∧ (p2.toInt < 4 ∨ 100 < p2.toInt)) ∨ (p1 = 1 ∧ p2 ≠ 0 ∧ p2 ≠ 1) ∨ (p1 ≠ 0 ∧ p1 ≠ 1)) : f_X0_changeSetting V p1 p2 = some (-1, V) := by
  have i4 : (4 : Int32).toInt = 4 := rfl
  have i100 : (100 : Int32).toInt = 100 := rfl
  unfold f_X0_changeSetting
  rcases hb with ⟨rfl, h⟩ | ⟨rfl, h1, h2⟩ | ⟨h1, h2⟩
  · rw [if_pos rfl]
    by_cases c1 : p2 < 4
    · rw [if_pos c1]
    · rw [if_neg c1, if_pos (by rw [i_lt, i4] at c1; rw [i_lt, i100]; omega)]
  · rw [if_neg (by decide), if_pos rfl, if_neg h1, if_neg h2]
  · rw [if_neg h1, if_neg h2]
theorem pass_bad (h : K2 V N) {p : Int32} (hp : p.toInt < 1 ∨ 200 < p.toInt) : f_X0_passTicks V p = some (-1, V) := by
  have i1 : (1 : Int32).toInt = 1 := rfl
  have i200 : (200 : Int32).toInt = 200 := rfl
  unfold f_X0_passTicks
  by_cases c : p < 1
  · rw [if_pos c]
  · rw [if_neg c, if_neg (by rw [i_le, i200]; rw [i_lt, i1] at c; omega)]
end CJ
