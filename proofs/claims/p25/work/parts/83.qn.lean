/-! ===== refused: every call of it is refused, and leaves all as it was ===== -/
theorem ck {γ : Type} {o : Option (Int32 × (FV × FV × (Nat → FV) × FV))} {r : Int32} {N : NN} {hs : List NN} {tx : List Nat} {k : (FV × FV × (Nat → FV) × FV) → Option γ} {Q : γ → Prop} (h : Go o (fun t => t.1 = r ∧ AS N hs tx t.2.1 t.2.2.2.1 t.2.2.2.2)) (hk : ∀ t : FV × FV × (Nat → FV) × FV, AS N hs tx t.1 t.2.2.1 t.2.2.2 → Go (k t) Q) : Go (b2 o fun x t => if x = r then k t else none) Q := by
  obtain ⟨z, rfl, h1, h2⟩ := h
  show Go (if z.1 = r then k z.2 else none) Q
  rw [if_pos h1]
  exact hk z.2 h2
theorem rk {β γ : Type} [DecidableEq β] {o : Option β} {r : β} {k : Option γ} {Q : γ → Prop} (h : o = some r) (hk : Go k Q) : Go (o.bind fun x => if x = r then k else none) Q := by
  subst h
  show Go (if r = r then k else none) Q
  rw [if_pos rfl]
  exact hk
section RC
variable {N : NN} {hs : List NN} {tx : List Nat} {v1 v2 v3 : FV} {G : Nat → FV}
theorem rc0 (h : AS N hs tx v1 G v3) : f_X3_count v1 v2 G v3 0 = some (nI (nW N)) := (rd_cnt h).1
theorem rc1 (h : AS N hs tx v1 G v3) : f_X3_count v1 v2 G v3 1 = some (nI (nD N)) := (rd_cnt h).2.1
theorem rc2 (h : AS N hs tx v1 G v3) : f_X3_count v1 v2 G v3 2 = some (N 0) := (rd_cnt h).2.2.1
theorem rc6 (h : AS N hs tx v1 G v3) : f_X3_count v1 v2 G v3 6 = some (suN N 8 (nW N) + suN N 9 (nW N)) := (rd_cnt h).2.2.2.2.2.2.1
theorem rc10 (h : AS N hs tx v1 G v3) : f_X3_count v1 v2 G v3 10 = some (nI (nQ N)) := (rd_cnt h).2.2.2.2.2.2.2.2.2.2.1
theorem rc11 (h : AS N hs tx v1 G v3) : f_X3_count v1 v2 G v3 11 = some (N 7) := (rd_cnt h).2.2.2.2.2.2.2.2.2.2.2.1
theorem rc12 (h : AS N hs tx v1 G v3) : f_X3_count v1 v2 G v3 12 = some (N 1 - tod N) := (rd_cnt h).2.2.2.2.2.2.2.2.2.2.2.2.1
theorem rc13 (h : AS N hs tx v1 G v3) : f_X3_count v1 v2 G v3 13 = some (nI hs.length) := (rd_cnt h).2.2.2.2.2.2.2.2.2.2.2.2.2.1
theorem rc14 (h : AS N hs tx v1 G v3) : f_X3_count v1 v2 G v3 14 = some (nI tx.length) := (rd_cnt h).2.2.2.2.2.2.2.2.2.2.2.2.2.2.1
theorem rc20 (h : AS N hs tx v1 G v3) : f_X3_count v1 v2 G v3 20 = some (N 1) := (rd_cnt h).2.2.2.2.2.2.2.2.2.2.2.2.2.2.2.1
theorem rc15 (h : AS N hs tx v1 G v3) : f_X3_count v1 v2 G v3 15 = some (-1) := (rd_cnt h).2.2.2.2.2.2.2.2.2.2.2.2.2.2.2.2.2.1
theorem rc22 (h : AS N hs tx v1 G v3) : f_X3_count v1 v2 G v3 22 = some (-1) := (rd_cnt h).2.2.2.2.2.2.2.2.2.2.2.2.2.2.2.2.2.2
/-- the end of a check: true, and all as it was -/
def RP (N : NN) (hs : List NN) (tx : List Nat) : Int32 × (FV × FV × (Nat → FV) × FV) → Prop := fun t => t.1 = 1 ∧ AS N hs tx t.2.1 t.2.2.2.1 t.2.2.2.2
theorem ref_644 (h : AS N hs tx v1 G v3) {z : Int64} (hz : PrN N z) : Go (f_L_refused_J644 z (nI hs.length) v1 v2 G v3) (RP N hs tx) := by
  unfold f_L_refused_J644
  exact rk (rc13 h) (rk (hz _ _ _ _ _ _ h) (Go.ret ⟨rfl, h⟩))
theorem ref_619 (h : AS N hs tx v1 G v3) {z : Int64} (hz : PrN N z) : Go (f_L_refused_J619 z (nI (nW N)) (nI hs.length) v1 v2 G v3) (RP N hs tx) := by
  have hb := h.1.b
  unfold f_L_refused_J619
  rcases Nat.lt_or_ge (nW N) 12 with c | c
  · exact Go.t (show nI (nW N) < (12 : Int32) from nI_lt (b := 12) c (by omega)) (ref_644 h hz)
  · refine Go.f (show ¬ nI (nW N) < (12 : Int32) from fun e => by rw [i_lt, nI_toInt (by omega), show (12 : Int32).toInt = 12 from rfl] at e; omega) ?_
    exact ck (well_fullc (a := 0) h (by omega) (by omega) ⟨by decide, by decide⟩ ⟨by decide, by decide⟩ ⟨by decide, by decide⟩) (fun t h => ref_644 h hz)
theorem z_y {n : Nat} (hn : 0 < n) : (0 : Nat) < n := hn
theorem ref_414 (h : AS N hs tx v1 G v3) {z : Int64} (hz : PrN N z) (hT : (N 0).toInt + 301 ≤ 50000) : Go (f_L_refused_J414 z (nI (nW N)) (nI hs.length) v1 v2 G v3) (RP N hs tx) := by
  have hb := h.1.b
  have hlo := h.1.2.1.2.1.1
  have i1 : (1 : Int32).toInt = 1 := rfl
  have i2 : (2 : Int32).toInt = 2 := rfl
  unfold f_L_refused_J414
  rcases Nat.eq_zero_or_pos (nW N) with c | c
  · exact Go.t (by rw [c]; decide) (ref_619 h hz)
  · refine Go.f (nI_nle c (by omega)) ?_
    have hrg := abl_rng (w0 := 0) hb.1 h.1.2.1.2.2.2.2.1 12 0 c
    refine Go.b2 (able_go (w := 0) h c) (fun x80 t80 q => ?_)
    obtain ⟨hx, h80⟩ := q
    have hx : x80.toInt = abl N 0 12 0 := hx
    have h80 : AS N hs tx t80.1 t80.2.2.1 t80.2.2.2 := h80
    refine rk (wo_spring h80 c) (rk (wo_14 h80 c) ?_)
    have ab0 : f_X3_aboveAt t80.1 t80.2.1 t80.2.2.1 t80.2.2.2 0 0 = some (-4) := by
      have e := above_val (v2 := t80.2.1) (w := 0) (k := 0) h80 c (fun j hj => absurd hj (by omega))
      rw [show upN N 0 0 = 0 from rfl, if_pos rfl] at e
      exact e
    refine rk ab0 (rk (above_neg h80 c) ?_)
    refine Go.rd (rc2 h80) (ck (drought_badc2 (w := 0) h80 c (Or.inl (Int.le_refl _))) (fun t90 h90 => ?_))
    refine Go.rd (rc2 h90) (Go.rd (rc2 h90) (ck (drought_badc2 (w := 0) h90 c (Or.inr (Or.inl (by rw [fb_addI (by omega) (by omega), fb_addI (by omega) (by omega)]; omega)))) (fun t94 h94 => ?_)))
    refine Go.rd (rc2 h94) (ck (drought_badc2 (w := 0) h94 c (Or.inr (Or.inr (by decide)))) (fun t97 h97 => ?_))
    refine ck (drawc_bad2 (w := 0) h97 c (Or.inl (by decide))) (fun t99 h99 => ?_)
    refine ck (drawc_bad2 (w := 0) h99 c (Or.inr (by decide))) (fun t101 h101 => ?_)
    refine ck (gives_bad3 (w := 0) h101 c (by decide) (by decide) (Or.inr (nI_le (Nat.le_refl _) (by omega)))) (fun t103 h103 => ?_)
    refine ck (water_301 h103 c) (fun t105 h105 => ?_)
    by_cases c9 : (999 : Int32) ≤ x80
    · exact Go.t c9 (ref_619 h105 hz)
    · refine Go.f c9 ?_
      rw [i_le, show (999 : Int32).toInt = 999 from rfl] at c9
      have hp : (x80 + 1).toInt = x80.toInt + 1 := by rw [fb_addI (by omega) (by omega)]; omega
      refine ck (drawc_no (w := 0) h105 c (by omega) (by omega) (by omega)) (fun t108 h108 => ?_)
      exact ck (gives_no (w := 0) (g := 0) h108 c c (by omega) (by omega) (by omega)) (fun t110 h110 => ref_619 h110 hz)
theorem ref_257 (h : AS N hs tx v1 G v3) {z : Int64} (hz : PrN N z) (hT : (N 0).toInt + 301 ≤ 50000) : Go (f_L_refused_J257 z (nI (nW N)) (nI hs.length) v1 v2 G v3) (RP N hs tx) := by
  have hb := h.1.b
  have hn : nI (nW N) < 0 ∨ nI (nW N) ≤ nI (nW N) := Or.inr (nI_le (Nat.le_refl _) (by omega))
  unfold f_L_refused_J257
  refine ck (tick_bad h (Or.inl (by decide))) (fun t42 h => ?_)
  refine ck (tick_bad h (Or.inr (by decide))) (fun t44 h => ?_)
  refine ck (set_badc h (Or.inr (Or.inr ⟨by decide, by decide⟩))) (fun t46 h => ?_)
  refine ck (set_badc h (Or.inl ⟨rfl, Or.inl (by decide)⟩)) (fun t48 h => ?_)
  refine ck (set_badc h (Or.inl ⟨rfl, Or.inr (by decide)⟩)) (fun t50 h => ?_)
  refine ck (set_badc h (Or.inr (Or.inl ⟨rfl, by decide, by decide⟩))) (fun t52 h => ?_)
  refine ck (set_badc h (Or.inr (Or.inl ⟨rfl, by decide, by decide⟩))) (fun t54 h => ?_)
  refine ck (able_bad h hn) (fun t56 h => ?_)
  refine ck (gives_bad1 h hn) (fun t58 h => ?_)
  refine ck (poss_bad h (Or.inl (by decide))) (fun t60 h => ?_)
  refine ck (water_bad h hn) (fun t62 h => ?_)
  refine rk (rc15 h) (rk (rc22 h) ?_)
  refine ck (type_bad h) (fun t68 h => ?_)
  exact ck (fault_bad h) (fun t70 h => ref_414 h hz hT)
theorem ref_40 (h : AS N hs tx v1 G v3) {z : Int64} (hz : PrN N z) (hT : (N 0).toInt + 301 ≤ 50000) {z0 y5 : Int32} (h5 : (nW N = 0 → y5 = -1) ∧ (0 < nW N → y5 = 0)) (h0 : (nW N = 0 → z0 = 0) ∧ (0 < nW N → z0 = -1)) : Go (f_L_refused_J40 z (nI (nW N)) (nI hs.length) y5 z0 v1 v2 G v3) (RP N hs tx) := by
  have hb := h.1.b
  have hn : nI (nW N) < 0 ∨ nI (nW N) ≤ nI (nW N) := Or.inr (nI_le (Nat.le_refl _) (by omega))
  have w0 : (nW N = 0 ∧ z0 ≠ -1) ∨ (0 < nW N ∧ (z0 < 0 ∨ nI (nW N) ≤ z0)) := by
    rcases Nat.eq_zero_or_pos (nW N) with c | c
    · exact Or.inl ⟨c, by rw [h0.1 c]; decide⟩
    · exact Or.inr ⟨c, Or.inl (by rw [h0.2 c]; decide)⟩
  have wn : (nW N = 0 ∧ nI (nW N) ≠ -1) ∨ (0 < nW N ∧ (nI (nW N) < 0 ∨ nI (nW N) ≤ nI (nW N))) := by
    rcases Nat.eq_zero_or_pos (nW N) with c | c
    · exact Or.inl ⟨c, by rw [c]; decide⟩
    · exact Or.inr ⟨c, hn⟩
  have wa : 0 < nW N → ∃ a, a < nW N ∧ y5 = nI a := fun c => ⟨0, c, h5.2 c⟩
  unfold f_L_refused_J40
  refine ck (well_badc h (w0.elim Or.inl (fun q => Or.inr (Or.inl q)))) (fun t h => ?_)
  refine ck (well_badc h (wn.elim Or.inl (fun q => Or.inr (Or.inl q)))) (fun t h => ?_)
  refine ck (well_badc h (Or.inr (Or.inr ⟨h5.1, wa, Or.inl (by decide)⟩))) (fun t h => ?_)
  refine ck (well_badc h (Or.inr (Or.inr ⟨h5.1, wa, Or.inr (Or.inl (by decide))⟩))) (fun t h => ?_)
  refine ck (well_badc h (Or.inr (Or.inr ⟨h5.1, wa, Or.inr (Or.inr (Or.inr (Or.inl (by decide))))⟩))) (fun t h => ?_)
  refine ck (well_badc h (Or.inr (Or.inr ⟨h5.1, wa, Or.inr (Or.inr (Or.inr (Or.inr (Or.inl (by decide)))))⟩))) (fun t h => ?_)
  refine Go.rd (rc2 h) (ck (drought_badc h hn) (fun t h => ?_))
  refine Go.rd (rc1 h) (rk (dr_bad h) (rk (wo_bad h hn) (rk (above_bad h hn) ?_)))
  refine ck (drawc_bad h hn) (fun t h => ?_)
  refine ck (request_badc h hn) (fun t h => ?_)
  refine ck (cancel_badc h (Or.inl (by decide))) (fun t h => ?_)
  have hq : ∀ {x : Int32}, x = nI (nQ N) → (x + 1 < 1 ∨ nI (nQ N) < x + 1) := fun e => by rw [e, nI_1]; exact Or.inr (nI_lt (by omega) (by omega))
  refine Go.rd (rc10 h) (ck (cancel_badc h (hq rfl)) (fun t h => ?_))
  refine Go.rd (rc10 h) (rk (rq_bad h (hq rfl)) (rk (rq_bad h (Or.inl (by decide))) ?_))
  exact ref_257 h hz hT
theorem refused_go (h : AS N hs tx v1 G v3) (hT : (N 0).toInt + 301 ≤ 50000) : Go (f_L_refused v1 v2 G v3) (RP N hs tx) := by
  have hb := h.1.b
  have hz0 : ∀ {n : Nat}, n ≤ 12 → (nI n = 0 ↔ n = 0) := fun hn => ⟨fun e => (nI_eq (a := _) (b := 0) (by omega) (by omega)).mp e, fun e => by rw [e]; rfl⟩
  unfold f_L_refused
  refine Go.bind (print_go h) (fun z hz => Go.rd (rc0 h) (Go.rd (rc13 h) ?_))
  rcases Nat.eq_zero_or_pos (nW N) with c | c
  · refine Go.t ((hz0 hb.1).mpr c) ?_
    unfold f_L_refused_J28
    exact Go.t ((hz0 hb.1).mpr c) (ref_40 h hz hT ⟨fun _ => rfl, fun q => absurd q (by omega)⟩ ⟨fun _ => rfl, fun q => absurd q (by omega)⟩)
  · have hne : ¬ nI (nW N) = 0 := nI_ne0 c (by omega)
    refine Go.f hne ?_
    unfold f_L_refused_J28
    exact Go.f hne (ref_40 h hz hT ⟨fun q => absurd q (by omega), fun _ => rfl⟩ ⟨fun q => absurd q (by omega), fun _ => rfl⟩)
end RC
