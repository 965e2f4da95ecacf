/-! ===== a field that is well: its numbers, its accounts, its row of requests ===== -/
def nW (N : NN) : Nat := (N 3).toNatClampNeg
def nD (N : NN) : Nat := (N 4).toNatClampNeg
def nQ (N : NN) : Nat := (N 5).toNatClampNeg
def SS (n : Nat) (N : NN) : Prop := suN N 6 n = suN N 4 n + (suN N 8 n + suN N 9 n) ∧ suN N 10 n = suN N 11 n + suN N 5 n
def RQ (q : Nat) (N : NN) : Prop := (∀ i, i < q → (N (212 + 3 * i + 2)).toInt ≤ (N 0).toInt) ∧ (∀ i, i + 1 < q → (N (212 + 3 * i + 2)).toInt ≤ (N (212 + 3 * (i + 1) + 2)).toInt)
/-- the first request that waits isn't possible -/
def FR (n q : Nat) (N : NN) : Prop := 0 < q → ∃ w, w < n ∧ N 212 = nI w ∧ abl N w 12 w < (N 213).toInt
def Gd (n d q : Nat) (N : NN) : Prop := Wf n d q 50000 N ∧ Cl n (1000 * (N 0).toInt) N ∧ SS n N ∧ RQ q N
def K2 (V : FV) (N : NN) : Prop := Rel (nW N) (nD N) (nQ N) V N ∧ Gd (nW N) (nD N) (nQ N) N
theorem SS_iff {n d q : Nat} {V : FV} {N : NN} (hR : Rel n d q V N) (hn : n ≤ 12) : SV V ↔ SS n N := by
  unfold SV SS
  rw [← sv_suN hR hn (r := 6) (by omega) (by omega), ← sv_suN hR hn (r := 4) (by omega) (by omega), ← sv_suN hR hn (r := 8) (by omega) (by omega), ← sv_suN hR hn (r := 9) (by omega) (by omega), ← sv_suN hR hn (r := 10) (by omega) (by omega), ← sv_suN hR hn (r := 11) (by omega) (by omega), ← sv_suN hR hn (r := 5) (by omega) (by omega)]
theorem nW_of {N : NN} {n : Nat} (h : N 3 = nI n) (hn : n ≤ 100) : nW N = n := by unfold nW; rw [h, nI_clamp (by omega)]
theorem nD_of {N : NN} {n : Nat} (h : N 4 = nI n) (hn : n ≤ 100) : nD N = n := by unfold nD; rw [h, nI_clamp (by omega)]
theorem nQ_of {N : NN} {n : Nat} (h : N 5 = nI n) (hn : n ≤ 100) : nQ N = n := by unfold nQ; rw [h, nI_clamp (by omega)]
theorem K2.of {n d q : Nat} {V : FV} {N : NN} (hR : Rel n d q V N) (hG : Gd n d q N) : K2 V N := by
  have hb := hG.1.1
  unfold K2
  rw [nW_of hR.1.2.1 (by omega), nD_of hR.1.2.2.2.1 (by omega), nQ_of hR.1.2.2.2.2.2.1 (by omega)]
  exact ⟨hR, hG⟩
theorem K2.get {V : FV} {N : NN} (h : K2 V N) : ∃ n d q, nW N = n ∧ nD N = d ∧ nQ N = q ∧ Rel n d q V N ∧ Gd n d q N := ⟨_, _, _, rfl, rfl, rfl, h.1, h.2⟩
theorem K2.ok {V : FV} {N : NN} (h : K2 V N) : Ok (nW N) (nD N) (nQ N) 50000 V N := ⟨h.1, h.2.1⟩
theorem K2.n3 {V : FV} {N : NN} (h : K2 V N) : N 3 = nI (nW N) := h.1.1.2.1
theorem K2.n4 {V : FV} {N : NN} (h : K2 V N) : N 4 = nI (nD N) := h.1.1.2.2.2.1
theorem K2.n5 {V : FV} {N : NN} (h : K2 V N) : N 5 = nI (nQ N) := h.1.1.2.2.2.2.2.1
theorem K2.b {V : FV} {N : NN} (h : K2 V N) : nW N ≤ 12 ∧ nD N ≤ 20 ∧ nQ N ≤ 8 := h.2.1.1
theorem K2.sS {V : FV} {N S : NN} (h : K2 V N) : K2 (sS V S) N := ⟨h.1.sS, h.2⟩
theorem K2.congrV {V V' : FV} {N : NN} (h : K2 V N) (e : ∀ i j, rl i j → V' i j = V i j) : K2 V' N := ⟨h.1.congrV h.b.1 h.b.2.1 h.b.2.2 e, h.2⟩
/-! a draw leaves less -/
theorem mo_le {N M : NN} {w0 g : Nat} (h3 : M (8 + 12 * g + 3) = N (8 + 12 * g + 3)) (h4 : (M (8 + 12 * g + 4)).toInt ≤ (N (8 + 12 * g + 4)).toInt) : (mo M w0 g).toInt ≤ (mo N w0 g).toInt := by
  unfold mo
  by_cases c : g = w0
  · rw [if_pos c, if_pos c]; exact h4
  · rw [if_neg c, if_neg c, jmin_toInt, jmin_toInt, h3]; omega
theorem abl_le {N M : NN} {w0 n : Nat} (hn : n ≤ 12) (hW : ∀ w, w < n → WW N w) (h0 : ∀ g, g < n → M (8 + 12 * g) = N (8 + 12 * g)) (h3 : ∀ g, g < n → M (8 + 12 * g + 3) = N (8 + 12 * g + 3)) (h4 : ∀ g, g < n → (M (8 + 12 * g + 4)).toInt ≤ (N (8 + 12 * g + 4)).toInt) : ∀ f g, g < n → abl M w0 f g ≤ abl N w0 f g := by
  intro f
  induction f with
  | zero => intro g _; exact Int.le_refl _
  | succ f ih =>
    intro g hg
    show (mo M w0 g).toInt + (if g = 0 then 0 else abl M w0 f (abv M g)) ≤ (mo N w0 g).toInt + (if g = 0 then 0 else abl N w0 f (abv N g))
    have h1 := mo_le (w0 := w0) (h3 g hg) (h4 g hg)
    by_cases c : g = 0
    · rw [if_pos c, if_pos c]; omega
    · rw [if_neg c, if_neg c, show abv M g = abv N g by unfold abv; rw [h0 g hg]]
      have := ih (abv N g) (by have := (abv_eq (hW g hg) (by omega) (by omega)).2; omega)
      omega
def dwN (N : NN) (n w0 : Nat) (b : Int32) (S : NN) : NN := upd (PW N w0 n (shr N w0 12 w0 b S)) 6 (N 6 + b)
theorem dwN_lo {N S : NN} {n w0 j : Nat} {b : Int32} (h : j < 6 ∨ j = 7 ∨ 8 + 12 * n ≤ j) : dwN N n w0 b S j = N j := by
  unfold dwN
  rw [upd_ne (by omega), PW_far (by omega)]
theorem dwN_w {N S : NN} {n w0 h k : Nat} {b : Int32} (hh : h < n) (hk : k < 12) : dwN N n w0 b S (8 + 12 * h + k) = PW N w0 n (shr N w0 12 w0 b S) (8 + 12 * h + k) := by
  unfold dwN
  rw [upd_ne (by omega)]
theorem dwN_keep {N S : NN} {n w0 h k : Nat} {b : Int32} (hh : h < n) (hk : k < 12) (h4 : k ≠ 4) (h8 : k ≠ 8) (h9 : k ≠ 9) : dwN N n w0 b S (8 + 12 * h + k) = N (8 + 12 * h + k) := by
  rw [dwN_w hh hk, PW_keep hh hk h4 h8 h9]
theorem dwN_4 {N S : NN} {n w0 h : Nat} {b : Int32} (hh : h < n) : dwN N n w0 b S (8 + 12 * h + 4) = N (8 + 12 * h + 4) - shr N w0 12 w0 b S h := by
  rw [dwN_w hh (by omega), PW_w hh (by omega), if_pos rfl]
theorem shr_ok {N S : NN} {n w0 : Nat} {b : Int32} (hn : n ≤ 12) (hW : ∀ w, w < n → WW N w) (hw : w0 < n) (hb : 0 ≤ b.toInt) (hS : ∀ h, h < 12 → S h = 0) : ∀ h, h < n → 0 ≤ (shr N w0 12 w0 b S h).toInt ∧ (shr N w0 12 w0 b S h).toInt ≤ (N (8 + 12 * h + 4)).toInt :=
  shr_rng hn hW 12 w0 b S (by omega) hw hb (fun h hh => by
    rw [hS h (by omega), i_0]
    have := (hW h hh).2.2.2.2.2
    omega)
theorem dwN_4i {N S : NN} {n w0 h : Nat} {b : Int32} (hn : n ≤ 12) (hW : ∀ w, w < n → WW N w) (hw : w0 < n) (hb : 0 ≤ b.toInt) (hS : ∀ h, h < 12 → S h = 0) (hh : h < n) : (dwN N n w0 b S (8 + 12 * h + 4)).toInt = (N (8 + 12 * h + 4)).toInt - (shr N w0 12 w0 b S h).toInt := by
  have h1 := shr_ok hn hW hw hb hS h hh
  have h2 := fb_rng (N (8 + 12 * h + 4))
  rw [dwN_4 hh, fb_subI (by omega) (by omega)]
theorem dwN_abl {N S : NN} {n w0 w1 : Nat} {b : Int32} (hn : n ≤ 12) (hW : ∀ w, w < n → WW N w) (hw : w0 < n) (hb : 0 ≤ b.toInt) (hS : ∀ h, h < 12 → S h = 0) : ∀ f g, g < n → abl (dwN N n w0 b S) w1 f g ≤ abl N w1 f g :=
  abl_le hn hW (fun g hg => dwN_keep (k := 0) hg (by omega) (by omega) (by omega) (by omega)) (fun g hg => dwN_keep hg (by omega) (by omega) (by omega) (by omega)) (fun g hg => by
    have h1 := shr_ok hn hW hw hb hS g hg
    rw [dwN_4i hn hW hw hb hS hg]; omega)
/-! a request leaves the row -/
theorem RQ.congr {q : Nat} {N M : NN} (h : RQ q N) (h0 : (N 0).toInt ≤ (M 0).toInt) (e : ∀ i, i < q → M (212 + 3 * i + 2) = N (212 + 3 * i + 2)) : RQ q M :=
  ⟨fun i hi => by rw [e i hi]; have := h.1 i hi; omega, fun i hi => by rw [e i (by omega), e (i + 1) hi]; exact h.2 i hi⟩
theorem RQ.leave {c k : Nat} {N : NN} {z : Int32} (h : RQ (c + 1) N) (hk : k ≤ c) (hc : c < 8) : RQ c (Lv (upd N 5 z) (212 + 3 * k) (212 + 3 * c)) := by
  have e : ∀ i, i < c → Lv (upd N 5 z) (212 + 3 * k) (212 + 3 * c) (212 + 3 * i + 2) = if i < k then N (212 + 3 * i + 2) else N (212 + 3 * (i + 1) + 2) := by
    intro i hi
    by_cases ck : i < k
    · rw [if_pos ck, Lv_lo (by omega), upd_ne (by omega)]
    · rw [if_neg ck]
      unfold Lv
      rw [if_pos (by omega), upd_ne (by omega), show 212 + 3 * i + 2 + 3 = 212 + 3 * (i + 1) + 2 by omega]
  have z0 : Lv (upd N 5 z) (212 + 3 * k) (212 + 3 * c) 0 = N 0 := by rw [Lv_lo (by omega), upd_ne (by omega)]
  refine ⟨fun i hi => ?_, fun i hi => ?_⟩
  · rw [e i hi, z0]
    by_cases ck : i < k
    · rw [if_pos ck]; exact h.1 i (by omega)
    · rw [if_neg ck]; exact h.1 (i + 1) (by omega)
  · rw [e i (by omega), e (i + 1) hi]
    by_cases ck : i < k
    · rw [if_pos ck]
      by_cases ck2 : i + 1 < k
      · rw [if_pos ck2]; exact h.2 i (by omega)
      · rw [if_neg ck2]
        have h1 := h.2 i (by omega)
        have h2 := h.2 (i + 1) (by omega)
        omega
    · rw [if_neg ck, if_neg (by omega)]
      exact h.2 (i + 1) (by omega)
theorem sM_inj {V : FV} {N M : NN} (h : sM V N = sM V M) : N = M := congrFun h 1
/-! serving the row once more, with what it says of the requests that are left -/
theorem serve_loopX {n d q : Nat} {T : Int} {Vm : FV} : ∀ (t k p m m' : Nat) (V : FV) (M N : NN), p + t = q → J n d q T k p (nI (p - k)) V M N → RQ (k + (q - p)) N → (0 < k → FR n (k + (q - p)) N) → ∃ (x : Int32) (V' : FV) (N' : NN) (q' : Nat), f_X0_serveWaiting_L12 (m + t + 1) (nI k) 1 (nI q) (nI p) V = some (x, V') ∧ f_X4_looks_L4 (m' + t + 1) (nI k) 1 (sM Vm N) = some (sM Vm N') ∧ RQ q' N' ∧ N' 5 = nI q' ∧ FR n q' N' ∧ q' ≤ k + (q - p) := by
  intro t
  induction t with
  | zero =>
    intro k p m m' V M N ht h hRQ hF
    have hq : p = q := by omega
    subst hq
    have hb := h.1.2.1
    have hkp := h.2.1
    have e5 := h.2.2.2.1
    rw [show k + (p - p) = k by omega] at e5 hRQ hF
    refine ⟨nI (p - k), st (st V 0 2 (nI k)) 0 4 (V 0 4 + nI (p - k)), N, k, ?_, ?_, hRQ, e5, fun hk => hF hk hk, by omega⟩
    · show (if nI p ≤ nI p then (lt1 (st V 0 2 (nI k)) fun V2 => (lt1 (st V2 0 4 ((V2 0 4) + (nI p - nI k))) fun V3 => some (nI p - nI k, V3))) else _) = _
      rw [if_pos (nI_le (Nat.le_refl p) (by omega)), lt1_mk, lt1_mk, nI_subN hkp.1, st_ne (i := 0) (j := 2) (a := 0) (b := 4) (by omega)]
    · show (if (N 5) ≤ nI k then _ else _) = _
      rw [e5, if_pos (nI_le (by omega) (by omega))]
  | succ t ih =>
    intro k p m m' V M N ht h hRQ hF
    have hb := h.1.2.1
    have hkp := h.2.1
    have hpq : p < q := by omega
    have hWf := h.wf
    have e22 : V 22 p = M (212 + 3 * p) := h.1.1.2.2.2.2.2 p 0 hpq (by omega)
    have e23 : V 23 p = M (212 + 3 * p + 1) := h.1.1.2.2.2.2.2 p 1 hpq (by omega)
    have n0 : N (212 + 3 * k) = M (212 + 3 * p) := h.2.2.2.2.2.2 0 0 (by omega) (by omega)
    have n1 : N (212 + 3 * k + 1) = M (212 + 3 * p + 1) := h.2.2.2.2.2.2 0 1 (by omega) (by omega)
    obtain ⟨w0, hw, ew⟩ := h.1.2.2.2.2.2.2.2.1 p hpq
    have hbb := h.1.2.2.2.2.2.2.2.2.1 p hpq
    have e5 := h.2.2.2.1
    have he : ∀ j, j < 152 → j ≠ 5 → j ≠ 7 → N j = M j := fun j h1 h2 h3 => h.2.2.1 j (by omega) h2 h3
    have hab := abl_congr (w0 := w0) hb.1 hWf.2.2.2.2.1 he 12 w0 hw
    obtain ⟨a, ha, hai⟩ := ableOf_eq (V := sM Vm N) (N := N) rfl hWf hw
    have hs := share_toInt h.1 hw (b := M (212 + 3 * p + 1)) (by omega)
    show ∃ (x : Int32) (V' : FV) (N' : NN) (q' : Nat), (if nI q ≤ nI p then _ else ((rd 8 (V 22) (nI p)).bind fun x4 => ((rd 8 (V 23) (nI p)).bind fun x5 => (b2 (f_X0_shareOut V x4 x5) fun x10 V10 => (if x10 = x5 then (b2 (f_X0_pourShares V10 x4) fun x15 V15 => (f_X0_serveWaiting_L12 (m + t + 1) (nI k) 1 (nI q) (nI p + 1) V15)) else (if (V10 4 1) = 1 then ((f_X0_moveRequest V10 (nI p) (nI k)).bind fun V14 => (f_X0_serveWaiting_L12 (m + t + 1) (nI k + 1) 1 (nI q) (nI p + 1) V14)) else ((f_X0_moveRequest V10 (nI p) (nI k)).bind fun V13 => (f_X0_serveWaiting_L12 (m + t + 1) (nI k + 1) 0 (nI q) (nI p + 1) V13)))))))) = some (x, V') ∧
      (if (N 5) ≤ nI k then some (sM Vm N) else ((rd 236 N (212 + (3 * nI k))).bind fun x3 => ((rd 236 N ((212 + (3 * nI k)) + 1)).bind fun x4 => ((f_X4_ableOf (sM Vm N) x3).bind fun x5 => (if x5 < x4 then (if (N 2) = 1 then (f_X4_looks_L4 (m' + t + 1) (nI k + 1) 1 (sM Vm N)) else (f_X4_looks_L4 (m' + t + 1) (nI k + 1) 0 (sM Vm N))) else (b2 (f_X4_takes (sM Vm N) x3 x4) fun x8 V8 => (lt1 (st V8 1 7 ((V8 1 7) + 1)) fun V9 => ((f_X4_leaves V9 (nI k)).bind fun V10 => (f_X4_looks_L4 (m' + t + 1) (nI k) 1 V10))))))))) = some (sM Vm N') ∧ RQ q' N' ∧ N' 5 = nI q' ∧ FR n q' N' ∧ q' ≤ k + (q - p)
    rw [if_neg (nI_ge (by omega) (by omega)), rd_nI (by omega) (by omega), ob_s, rd_nI (by omega) (by omega), ob_s, e22, e23, ew, share_eq h.1 hw, b2_mk]
    rw [e5, if_neg (nI_ge (by omega) (by omega)), ix_q, nI_1 (212 + 3 * k), rd_nI (by omega) (by omega), ob_s, rd_nI (by omega) (by omega), ob_s, n0, n1, ew, ha, ob_s]
    by_cases hp : (M (212 + 3 * p + 1)).toInt ≤ abl M w0 12 w0
    · rw [if_pos (by rw [i_eq, hs]; omega), if_neg (show ¬ a < M (212 + 3 * p + 1) by rw [i_lt, hai, hab]; omega)]
      obtain ⟨l, l', V', M', N', e1, e2, e3, e4, e6, e8⟩ := h.take (Vm := Vm) hw (b := M (212 + 3 * p + 1)) (by omega) hp
      have tk := takes_eq (Vm := Vm) hWf hw (b := M (212 + 3 * p + 1)) (S := fun _ => 0) (fun _ _ => rfl)
      have eN : N' = dwN N n w0 (M (212 + 3 * p + 1)) (fun _ => 0) := sM_inj (some_snd (e2.symm.trans tk))
      have h5 := e3.2.2.2.1
      have h2 := (e3.more (y := 1)).leave hpq
      rw [nI_1, show p - k + 1 = p + 1 - k by omega] at h2
      have hR1 : RQ (k + (q - p)) (upd N' 7 (N' 7 + 1)) := hRQ.congr (by rw [upd_ne (by omega), e6 0 (by omega)]; exact Int.le_refl _) (fun i hi => by rw [upd_ne (by omega), e6 _ (by omega)])
      have hR2 : RQ (k + (q - (p + 1))) (Lv (upd (upd N' 7 (N' 7 + 1)) 5 (nI (k + (q - p) - 1))) (212 + 3 * k) (212 + 3 * (k + (q - p) - 1))) := by
        have := RQ.leave (c := k + (q - p) - 1) (k := k) (z := nI (k + (q - p) - 1)) (N := upd N' 7 (N' 7 + 1)) (by rw [show k + (q - p) - 1 + 1 = k + (q - p) by omega]; exact hR1) (by omega) (by omega)
        rw [show k + (q - (p + 1)) = k + (q - p) - 1 by omega]
        exact this
      have hF2 : 0 < k → FR n (k + (q - (p + 1))) (Lv (upd (upd N' 7 (N' 7 + 1)) 5 (nI (k + (q - p) - 1))) (212 + 3 * k) (212 + 3 * (k + (q - p) - 1))) := by
        intro hk _
        obtain ⟨w, hwn, f1, f2⟩ := hF hk (by omega)
        have z : ∀ j, j < 212 + 3 * k → j ≠ 5 → j ≠ 7 → Lv (upd (upd N' 7 (N' 7 + 1)) 5 (nI (k + (q - p) - 1))) (212 + 3 * k) (212 + 3 * (k + (q - p) - 1)) j = N' j := fun j h1 h2 h3 => by rw [Lv_lo h1, upd_ne h2, upd_ne h3]
        refine ⟨w, hwn, by rw [z 212 (by omega) (by omega) (by omega), e6 212 (by omega)]; exact f1, ?_⟩
        rw [z 213 (by omega) (by omega) (by omega), e6 213 (by omega)]
        have g1 := abl_le (N := N) (M := Lv (upd (upd N' 7 (N' 7 + 1)) 5 (nI (k + (q - p) - 1))) (212 + 3 * k) (212 + 3 * (k + (q - p) - 1))) (w0 := w) hb.1 hWf.2.2.2.2.1
          (fun g hg => by rw [z _ (by omega) (by omega) (by omega), eN]; exact dwN_keep (k := 0) hg (by omega) (by omega) (by omega) (by omega))
          (fun g hg => by rw [z _ (by omega) (by omega) (by omega), eN]; exact dwN_keep hg (by omega) (by omega) (by omega) (by omega))
          (fun g hg => by
            rw [z _ (by omega) (by omega) (by omega), eN, dwN_4i hb.1 hWf.2.2.2.2.1 hw (by omega) (fun _ _ => rfl) hg]
            have := shr_ok (w0 := w0) (b := M (212 + 3 * p + 1)) (S := fun _ => 0) hb.1 hWf.2.2.2.2.1 hw (by omega) (fun _ _ => rfl) g hg
            omega) 12 w hwn
        omega
      obtain ⟨x, V2, N2, q2, f1, f2, f3, f4, f5, f6⟩ := ih k (p + 1) m m' V' M' _ (by omega) h2 hR2 hF2
      rw [e1, b2_mk, e2, b2_mk, lt1_mk, st_sM2, leaves_eq (c := k + (q - p) - 1) (by omega) (by omega) (by rw [upd_ne (by omega), h5]; congr 1; omega), ob_s, nI_1]
      exact ⟨x, V2, N2, q2, f1, f2, f3, f4, f5, by omega⟩
    · rw [if_neg (by rw [i_eq, hs]; omega), if_pos (show a < M (212 + 3 * p + 1) by rw [i_lt, hai, hab]; omega)]
      have hS : J n d q T k p (nI (p - k)) (sS V (shr M w0 12 w0 (M (212 + 3 * p + 1)) (S0 V))) M N := h.sS
      have hm := hS.mv hpq
      rw [show p - k = p + 1 - (k + 1) by omega] at hm
      rw [hS.pass, move_eq (by omega) (by omega), ob_s, ob_s, nI_1, nI_1]
      have hF2 : FR n (k + (q - p)) N := by
        rcases Nat.eq_zero_or_pos k with hk | hk
        · subst hk
          intro _
          refine ⟨w0, hw, by rw [← ew]; exact n0, ?_⟩
          rw [show N 213 = M (212 + 3 * p + 1) from n1, hab]
          omega
        · exact hF hk
      by_cases c : N 2 = 1
      · rw [if_pos c, if_pos c]
        obtain ⟨x, V2, N2, q2, f1, f2, f3, f4, f5, f6⟩ := ih (k + 1) (p + 1) m m' _ _ _ (by omega) hm (by rw [show k + 1 + (q - (p + 1)) = k + (q - p) by omega]; exact hRQ) (fun _ => by rw [show k + 1 + (q - (p + 1)) = k + (q - p) by omega]; exact hF2)
        exact ⟨x, V2, N2, q2, f1, f2, f3, f4, f5, by omega⟩
      · rw [if_neg c, if_neg c]
        obtain ⟨V', q', f1, f2⟩ := serve_mv c t (k + 1) (p + 1) m _ _ (by omega) hm
        exact ⟨_, V', N, k + (q - p), f1, rfl, hRQ, e5, hF2, Nat.le_refl _⟩
theorem serve_simX {n d q : Nat} {T : Int} {V Vm : FV} {N : NN} (hO : Ok n d q T V N) (hRQ : RQ q N) : ∃ (x : Int32) (V' : FV) (N' : NN) (q' : Nat), f_X0_serveWaiting V = some (x, V') ∧ f_X4_looks (sM Vm N) = some (sM Vm N') ∧ RQ q' N' ∧ N' 5 = nI q' ∧ FR n q' N' ∧ q' ≤ q := by
  have hb := hO.2.1
  obtain ⟨m, hm⟩ := FUEL_ge (k := q + 1) (by omega)
  obtain ⟨x, V', N', q', e1, e2, e3, e4, e5, e6⟩ := serve_loopX (Vm := Vm) q 0 0 m m V N N (by omega) (J.start hO) (by rw [show 0 + (q - 0) = q by omega]; exact hRQ) (fun h => absurd h (by omega))
  refine ⟨x, V', N', q', ?_, ?_, e3, e4, e5, by omega⟩
  · unfold f_X0_serveWaiting
    rw [hm, hO.1.1.2.2.2.2.1]
    exact e1
  · unfold f_X4_looks
    rw [hm]
    exact e2
