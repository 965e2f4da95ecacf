/-! ===== the accounts hold through each of the class's loops ===== -/
theorem in_lt {i : Int32} {n : Nat} (h : vp_in i n) : i.toNatClampNeg < n := Nat.not_le.mp (fun q => h (Or.inr q))
theorem flow_SV : ∀ (f : Nat) (y1 y2 : Int32) (V V' : FV), f_X0_flowIn_L11 f y1 y2 V = some V' → SV V → SV V' := by
  intro f
  induction f with
  | zero => intro y1 y2 V V' h; cases h
  | succ f ih =>
    intro y1 y2 V V' h hs
    unfold f_X0_flowIn_L11 at h
    by_cases c1 : (V 0 0) ≤ y2
    · replace h := ite_t c1 h
      cases h
      exact hs
    · replace h := ite_f c1 h
      by_cases c2 : ((y1 >>> (y2 &&& 31)) &&& 1) = 0
      · replace h := ite_t c2 h
        obtain ⟨x4, -, -, h⟩ := rd_some h
        obtain ⟨x5, -, h⟩ := b1_some h
        obtain ⟨x6, -, h⟩ := lt1_some h
        obtain ⟨x7, hi, rfl, h⟩ := rd_some h
        obtain ⟨V8, -, rfl, h⟩ := wr_some h
        obtain ⟨x9, -, rfl, h⟩ := rd_some h
        obtain ⟨V10, -, rfl, h⟩ := wr_some h
        obtain ⟨x11, -, rfl, h⟩ := rd_some h
        obtain ⟨V12, -, rfl, h⟩ := wr_some h
        exact ih _ _ _ _ h (hs.flow (in_lt hi))
      · replace h := ite_f c2 h
        exact ih _ _ _ _ h hs
theorem flowIn_SV {V V' : FV} (h : f_X0_flowIn V = some V') (hs : SV V) : SV V' := by
  unfold f_X0_flowIn at h
  obtain ⟨x1, -, h⟩ := b1_some h
  exact flow_SV _ _ _ _ _ h hs
theorem lend_SV : ∀ (f : Nat) (y1 y2 : Int32) (V : FV) (r : Int32) (V' : FV), f_X0_lendAtNoon_L9 f y1 y2 V = some (r, V') → SV V → SV V' := by
  intro f
  induction f with
  | zero => intro y1 y2 V r V' h; cases h
  | succ f ih =>
    intro y1 y2 V r V' h hs
    unfold f_X0_lendAtNoon_L9 at h
    by_cases c1 : y2 ≤ 0
    · replace h := ite_t c1 h
      cases h
      exact hs
    · replace h := ite_f c1 h
      obtain ⟨x2, -, -, h⟩ := rd_some h
      obtain ⟨x3, -, -, h⟩ := rd_some h
      obtain ⟨x4, -, -, h⟩ := rd_some h
      obtain ⟨x5, -, h⟩ := b1_some h
      by_cases c2 : x5 = 0
      · replace h := ite_t c2 h
        exact ih _ _ _ _ _ h hs
      · replace h := ite_f c2 h
        obtain ⟨x7, -, h⟩ := b1_some h
        obtain ⟨x8, -, h⟩ := lt1_some h
        by_cases c3 : x8 ≤ 0
        · replace h := ite_t c3 h
          exact ih _ _ _ _ _ h hs
        · replace h := ite_f c3 h
          obtain ⟨x10, hi, rfl, h⟩ := rd_some h
          obtain ⟨V11, -, rfl, h⟩ := wr_some h
          obtain ⟨x12, hi2, rfl, h⟩ := rd_some h
          obtain ⟨V13, -, eV, h⟩ := wr_some h
          obtain ⟨x14, -, rfl, h⟩ := rd_some h
          obtain ⟨V15, -, rfl, h⟩ := wr_some h
          obtain ⟨x16, -, rfl, h⟩ := rd_some h
          obtain ⟨V17, -, rfl, h⟩ := wr_some h
          exact ih _ _ _ _ _ h (hs.move (in_lt hi) (in_lt hi2) (in_lt hi) (in_lt hi2) V13 eV.symm).1
theorem payBack_SV {V V' : FV} {p1 p2 : Int32} (h : f_X0_payBack V p1 p2 = some V') (hs : SV V) : SV V' := by
  unfold f_X0_payBack at h
  obtain ⟨x1, -, -, h⟩ := rd_some h
  obtain ⟨x2, -, -, h⟩ := rd_some h
  obtain ⟨x3, -, h⟩ := b1_some h
  obtain ⟨x4, -, h⟩ := lt1_some h
  obtain ⟨x5, -, h⟩ := lt1_some h
  obtain ⟨x6, hi, rfl, h⟩ := rd_some h
  obtain ⟨V7, -, rfl, h⟩ := wr_some h
  obtain ⟨x8, hi2, rfl, h⟩ := rd_some h
  obtain ⟨V9, -, eV, h⟩ := wr_some h
  obtain ⟨x10, -, rfl, h⟩ := rd_some h
  obtain ⟨V11, -, rfl, h⟩ := wr_some h
  obtain ⟨x12, -, rfl, h⟩ := rd_some h
  obtain ⟨V13, -, rfl, h⟩ := wr_some h
  cases h
  exact (hs.move (in_lt hi) (in_lt hi2) (in_lt hi2) (in_lt hi2) V9 eV.symm).2
theorem payI_SV (k : Int32 → FV → Option FV) (hk : ∀ y V V', k y V = some V' → SV V → SV V') : ∀ (f : Nat) (y1 y2 : Int32) (V V' : FV), f_X0_payBackInEvening_L14 k f y1 y2 V = some V' → SV V → SV V' := by
  intro f
  induction f with
  | zero => intro y1 y2 V V' h; cases h
  | succ f ih =>
    intro y1 y2 V V' h hs
    unfold f_X0_payBackInEvening_L14 at h
    by_cases c1 : (V 0 0) ≤ y2
    · replace h := ite_t c1 h
      exact hk _ _ _ h hs
    · replace h := ite_f c1 h
      obtain ⟨x3, -, -, h⟩ := rd_some h
      by_cases c2 : x3 = y1
      · replace h := ite_t c2 h
        obtain ⟨V5, e5, h⟩ := b1_some h
        exact ih _ _ _ _ h (payBack_SV e5 hs)
      · replace h := ite_f c2 h
        exact ih _ _ _ _ h hs
theorem payO_SV : ∀ (f : Nat) (y : Int32) (V V' : FV), f_X0_payBackInEvening_L2 f y V = some V' → SV V → SV V' := by
  intro f
  induction f with
  | zero => intro y V V' h; cases h
  | succ f ih =>
    intro y V V' h hs
    unfold f_X0_payBackInEvening_L2 at h
    by_cases c1 : (V 0 0) ≤ y
    · replace h := ite_t c1 h
      cases h
      exact hs
    · replace h := ite_f c1 h
      exact payI_SV _ (fun y V V' h hs => ih y V V' h hs) _ _ _ _ _ h hs
theorem pourL_SV : ∀ (f : Nat) (y1 y2 y3 : Int32) (V : FV) (r : Int32) (V' : FV), f_X0_pourShares_L4 f y1 y2 y3 V = some (r, V') → SV V → SV V' := by
  intro f
  induction f with
  | zero => intro y1 y2 y3 V r V' h; cases h
  | succ f ih =>
    intro y1 y2 y3 V r V' h hs
    unfold f_X0_pourShares_L4 at h
    by_cases c1 : (V 0 0) ≤ y3
    · replace h := ite_t c1 h
      cases h
      exact hs
    · replace h := ite_f c1 h
      obtain ⟨x2, -, -, h⟩ := rd_some h
      obtain ⟨x3, hi, rfl, h⟩ := rd_some h
      obtain ⟨V4, -, rfl, h⟩ := wr_some h
      by_cases c2 : y3 = y1
      · replace h := ite_t c2 h
        obtain ⟨x8, -, rfl, h⟩ := rd_some h
        obtain ⟨V9, -, rfl, h⟩ := wr_some h
        exact ih _ _ _ _ _ _ h (hs.pour (in_lt hi) (Or.inl rfl))
      · replace h := ite_f c2 h
        obtain ⟨x8, -, rfl, h⟩ := rd_some h
        obtain ⟨V9, -, rfl, h⟩ := wr_some h
        exact ih _ _ _ _ _ _ h (hs.pour (in_lt hi) (Or.inr rfl))
theorem pour_SV {V V' : FV} {p r : Int32} (h : f_X0_pourShares V p = some (r, V')) (hs : SV V) : SV V' := pourL_SV _ _ _ _ _ _ _ h hs
/-! what shareOut and moveRequest leave as it was -/
theorem shareL_far : ∀ (f : Nat) (y1 y2 y3 y4 y5 : Int32) (V : FV) (r : Int32) (V' : FV), f_X0_shareOut_L16 f y1 y2 y3 y4 y5 V = some (r, V') → ∀ c, c ≠ 5 → V' c = V c := by
  intro f
  induction f with
  | zero => intro y1 y2 y3 y4 y5 V r V' h; cases h
  | succ f ih =>
    intro y1 y2 y3 y4 y5 V r V' h c hc
    unfold f_X0_shareOut_L16 at h
    by_cases c1 : 12 ≤ y5
    · replace h := ite_t c1 h
      cases h
      rfl
    · replace h := ite_f c1 h
      obtain ⟨x3, -, h⟩ := b1_some h
      by_cases c2 : x3 = 0
      · replace h := ite_t c2 h
        cases h
        rfl
      · replace h := ite_f c2 h
        obtain ⟨x5, -, -, h⟩ := rd_some h
        by_cases c3 : y4 = y1
        · replace h := ite_t c3 h
          obtain ⟨x13, -, h⟩ := lt1_some h
          obtain ⟨V14, -, rfl, h⟩ := wr_some h
          obtain ⟨x15, -, -, h⟩ := rd_some h
          obtain ⟨x16, -, -, h⟩ := rd_some h
          exact (ih _ _ _ _ _ _ _ _ h c hc).trans (st_cell hc)
        · replace h := ite_f c3 h
          obtain ⟨x7, -, -, h⟩ := rd_some h
          obtain ⟨x8, -, h⟩ := lt1_some h
          obtain ⟨x9, -, h⟩ := lt1_some h
          obtain ⟨V10, -, rfl, h⟩ := wr_some h
          obtain ⟨x11, -, -, h⟩ := rd_some h
          obtain ⟨x12, -, -, h⟩ := rd_some h
          exact (ih _ _ _ _ _ _ _ _ h c hc).trans (st_cell hc)
theorem share_far {V V' : FV} {p b r : Int32} (h : f_X0_shareOut V p b = some (r, V')) {c : Nat} (hc : c ≠ 5) : V' c = V c := by
  unfold f_X0_shareOut at h
  obtain ⟨V1, e1, h⟩ := lt1_some h
  rw [shareL_far _ _ _ _ _ _ _ _ _ h c hc, ← e1, fill_sS, sS_ne hc]
theorem share_SV {V V' : FV} {p b r : Int32} (h : f_X0_shareOut V p b = some (r, V')) (hs : SV V) : SV V' := hs.congr (fun c j h1 h2 _ => by rw [share_far h (by omega)])
theorem moveL_far : ∀ (f : Nat) (y1 y2 y3 : Int32) (V V' : FV), f_X0_moveRequest_L2 f y1 y2 y3 V = some V' → ∀ c, c < 22 → V' c = V c := by
  intro f
  induction f with
  | zero => intro y1 y2 y3 V V' h; cases h
  | succ f ih =>
    intro y1 y2 y3 V V' h c hc
    unfold f_X0_moveRequest_L2 at h
    by_cases c1 : 3 ≤ y3
    · replace h := ite_t c1 h
      cases h
      rfl
    · replace h := ite_f c1 h
      obtain ⟨j2, -, -, -, h⟩ := ix_some h
      obtain ⟨j3, -, -, -, h⟩ := ix_some h
      obtain ⟨x4, -, -, h⟩ := rd_some h
      obtain ⟨V5, -, rfl, h⟩ := wr_some h
      exact (ih _ _ _ _ _ h c hc).trans (st_cell (by omega))
theorem move_far {V V' : FV} {p q : Int32} (h : f_X0_moveRequest V p q = some V') {c : Nat} (hc : c < 22) : V' c = V c := moveL_far _ _ _ _ _ _ h c hc
theorem serveL_SV : ∀ (f : Nat) (y1 y2 y3 y4 : Int32) (V : FV) (r : Int32) (V' : FV), f_X0_serveWaiting_L12 f y1 y2 y3 y4 V = some (r, V') → SV V → SV V' := by
  intro f
  induction f with
  | zero => intro y1 y2 y3 y4 V r V' h; cases h
  | succ f ih =>
    intro y1 y2 y3 y4 V r V' h hs
    unfold f_X0_serveWaiting_L12 at h
    by_cases c1 : y3 ≤ y4
    · replace h := ite_t c1 h
      obtain ⟨V2, rfl, h⟩ := lt1_some h
      obtain ⟨V3, rfl, h⟩ := lt1_some h
      cases h
      exact hs.congr (fun c j h1 h2 _ => by rw [st_ne (by omega), st_ne (by omega)])
    · replace h := ite_f c1 h
      obtain ⟨x4, -, -, h⟩ := rd_some h
      obtain ⟨x5, -, -, h⟩ := rd_some h
      have mv : ∀ {W W1 : FV} {p q : Int32}, f_X0_moveRequest W p q = some W1 → SV W → SV W1 := fun hm hw => hw.congr (fun c j h1 h2 _ => by rw [move_far hm (by omega)])
      by_cases c2 : y2 = 0
      · replace h := ite_t c2 h
        by_cases c3 : (V 4 1) = 1
        · replace h := ite_t c3 h
          obtain ⟨V9, e9, h⟩ := b1_some h
          exact ih _ _ _ _ _ _ _ h (mv e9 hs)
        · replace h := ite_f c3 h
          obtain ⟨V9, e9, h⟩ := b1_some h
          exact ih _ _ _ _ _ _ _ h (mv e9 hs)
      · replace h := ite_f c2 h
        obtain ⟨x10, V10, e10, h⟩ := b2_some h
        have hs10 := share_SV e10 hs
        by_cases c3 : x10 = x5
        · replace h := ite_t c3 h
          obtain ⟨x15, V15, e15, h⟩ := b2_some h
          exact ih _ _ _ _ _ _ _ h (pour_SV e15 hs10)
        · replace h := ite_f c3 h
          by_cases c4 : (V10 4 1) = 1
          · replace h := ite_t c4 h
            obtain ⟨V9, e9, h⟩ := b1_some h
            exact ih _ _ _ _ _ _ _ h (mv e9 hs10)
          · replace h := ite_f c4 h
            obtain ⟨V9, e9, h⟩ := b1_some h
            exact ih _ _ _ _ _ _ _ h (mv e9 hs10)
theorem serve_SV {V V' : FV} {r : Int32} (h : f_X0_serveWaiting V = some (r, V')) (hs : SV V) : SV V' := serveL_SV _ _ _ _ _ _ _ _ h hs
/-- a tick keeps the accounts -/
theorem tick_SV {V V' : FV} {r : Int32} (h : f_X0_passTick V = some (r, V')) (hs : SV V) : SV V' := by
  unfold f_X0_passTick at h
  obtain ⟨V1, rfl, h⟩ := lt1_some h
  obtain ⟨V2, e2, h⟩ := b1_some h
  have h2 := flowIn_SV e2 (hs.congr (fun c j h1 h2 _ => st_ne (by omega)))
  obtain ⟨x3, -, h⟩ := b1_some h
  by_cases c1 : x3 = 0
  · replace h := ite_t c1 h
    obtain ⟨x10, V10, e10, h⟩ := b2_some h
    obtain ⟨x11, V11, e11, h⟩ := b2_some h
    cases h
    exact serve_SV e11 (lend_SV _ _ _ _ _ _ e10 h2)
  · replace h := ite_f c1 h
    obtain ⟨x5, -, h⟩ := b1_some h
    by_cases c2 : x5 = ((V2 4 0) / 2)
    · replace h := ite_t c2 h
      obtain ⟨V8, e8, h⟩ := b1_some h
      obtain ⟨x9, V9, e9, h⟩ := b2_some h
      cases h
      exact serve_SV e9 (payO_SV _ _ _ _ e8 h2)
    · replace h := ite_f c2 h
      obtain ⟨x7, V7, e7, h⟩ := b2_some h
      cases h
      exact serve_SV e7 h2
theorem draw_SV {V V' : FV} {p b r : Int32} (h : f_X0_takeDraw V p b = some (r, V')) (hs : SV V) : SV V' := by
  unfold f_X0_takeDraw at h
  obtain ⟨x1, -, h⟩ := b1_some h
  by_cases c1 : x1 = 0
  · replace h := ite_t c1 h
    cases h
    exact hs
  · replace h := ite_f c1 h
    obtain ⟨x3, -, h⟩ := b1_some h
    by_cases c2 : x3 = 0
    · replace h := ite_t c2 h
      cases h
      exact hs
    · replace h := ite_f c2 h
      obtain ⟨x5, V5, e5, h⟩ := b2_some h
      by_cases c3 : x5 = b
      · replace h := ite_t c3 h
        obtain ⟨x7, V7, e7, h⟩ := b2_some h
        cases h
        exact pour_SV e7 (share_SV e5 hs)
      · replace h := ite_f c3 h
        cases h
        exact share_SV e5 hs
