section LD
variable {L : Nat} {xs : Nat → Int32} {k85 : Int32 → FV → FV → (Nat → FV) → FV → Option (Int32 × (FV × FV × (Nat → FV) × FV))} {N : NN} {hs : List NN} {tx : List Nat} {v1 v2 v3 : FV} {G : Nat → FV} {T : Int} {t v w b : Nat}
theorem lc_543_w {a0 : Nat} (h : AS (rqN N (nQ N) a0 (nI b)) ((N :: hs).take 4) tx v1 G v3) (H : HD T t v w b N hs) (hk : NX' T t k85) (hq : nQ N < 8) : Go (f_L_law_J543 L xs k85 (nI t) (nI v) (nI w) (nI b) (nI (nQ N)) (nI (nQ N + 1)) v1 v2 G v3) Tr := by
  have e5 : nQ (rqN N (nQ N) a0 (nI b)) = nQ N + 1 := nQ_of upd_eq (by omega)
  have e0 : rqN N (nQ N) a0 (nI b) 0 = N 0 := rqN_far (by omega) (by omega)
  have q1 : f_X3_requestAt v1 v2 G v3 (nI (nQ N + 1)) 1 = some (nI b) := by
    rw [show (1 : Int32) = nI 1 from rfl, rq_k h (by omega) (by omega)]
    unfold rqN
    rw [upd_ne (by omega), upd_ne (by omega), upd_eq]
  have q2 : f_X3_requestAt v1 v2 G v3 (nI (nQ N + 1)) 2 = some (N 0) := by
    rw [show (2 : Int32) = nI 2 from rfl, rq_k h (by omega) (by omega)]
    unfold rqN
    rw [upd_ne (by omega), upd_eq]
  have c2 : f_X3_count v1 v2 G v3 2 = some (N 0) := by rw [rc2 h, e0]
  have ty : (nI (nQ N + 1)).toInt = (nQ N + 1 : Nat) := nI_toInt (by omega)
  unfold f_L_law_J543
  refine Go.f (fun e => by have := (nI_eq (a := nQ N) (b := 8) (by omega) (by omega)).mp e; omega) (Go.t (by rw [nI_1]) (Go.rd q1 (Go.t rfl (Go.rd q2 (Go.rd c2 (Go.t rfl ?_))))))
  exact lc_end (H.new h (by rw [e0]; have := H.1; omega)) (by omega) H hk
theorem lc_486 (h : AS N hs tx v1 G v3) (H : HD T t v w b N hs) (hk : NX' T t k85) {a : Nat} (ha : a < nW N) : Go (f_L_law_J486 L xs k85 (nI t) (nI v) (nI w) (nI a) (nI b) (nI (nQ N)) (suN N 8 (nW N) + suN N 9 (nW N)) v1 v2 G v3) Tr := by
  have hbd := h.1.b
  have hN := H.1
  obtain ⟨-, -, -, -, -, -, hb1, hb2⟩ := id H
  have tb : (nI b).toInt = b := nI_toInt (by omega)
  have hw4 := (h.1.2.1.2.2.2.2.1 a ha).2.2.2.2.2
  unfold f_L_law_J486
  refine Go.b2 (able_go h ha) (fun x75 t75 q => ?_)
  obtain ⟨hx, h75⟩ := q
  have hx : x75.toInt = abl N a 12 a := hx
  have h75 : AS N hs tx t75.1 t75.2.2.1 t75.2.2.2 := h75
  by_cases cq : nQ N = 0
  · have e0 : nI (nQ N) = 0 := by rw [cq]; rfl
    by_cases c : x75 < nI b
    · have hp : abl N a 12 a < (nI b).toInt := by rw [i_lt] at c; omega
      refine Go.b2 (chg_ok (opC := fun V => f_X0_takeRequest V (nI a) (nI b)) h75 (nI_pos (by omega)) (request_wait h75.1 (by omega) ha (by omega) (by omega) (fun _ => hp))) (fun x76 t76 q => ?_)
      obtain ⟨hx76, h76⟩ := q
      have hx76 : x76 = nI (nQ N + 1) := hx76
      subst hx76
      exact Go.t e0 (Go.t c (lc_543_w h76 H hk (by omega)))
    · have hp : (nI b).toInt ≤ abl N a 12 a := by rw [i_lt] at c; omega
      refine Go.b2 (chg_ok (opC := fun V => f_X0_takeRequest V (nI a) (nI b)) h75 (by decide) (request_now h75.1 cq ha (by omega) (by omega) hp)) (fun x76 t76 q => ?_)
      obtain ⟨hx76, h76⟩ := q
      have hx76 : x76 = 0 := hx76
      have h76 : AS (dwN N (nW N) a (nI b) z0) ((N :: hs).take 4) tx t76.1 t76.2.2.1 t76.2.2.2 := h76
      have e6 := dw_6 h.1 h76.1 (b := nI b) (show dwN N (nW N) a (nI b) z0 6 = N 6 + nI b from upd_eq)
      refine Go.t e0 (Go.f c (Go.t hx76 (Go.rd (rc6 h76) (Go.t e6 ?_))))
      exact lc_end (H.new h76 (by rw [dwN_lo (by omega)]; omega)) (by rw [hx76]; decide) H hk
  · have e0 : ¬ nI (nQ N) = 0 := nI_ne0 (by omega) (by omega)
    rcases Nat.lt_or_ge (nQ N) 8 with c8 | c8
    · refine Go.b2 (chg_ok (opC := fun V => f_X0_takeRequest V (nI a) (nI b)) h75 (nI_pos (by omega)) (request_wait h75.1 c8 ha (by omega) (by omega) (fun e => absurd e cq))) (fun x76 t76 q => ?_)
      obtain ⟨hx76, h76⟩ := q
      have hx76 : x76 = nI (nQ N + 1) := hx76
      subst hx76
      exact Go.f e0 (lc_543_w h76 H hk c8)
    · have h8 : nQ N = 8 := by omega
      refine Go.b2 (chg_err (opC := fun V => f_X0_takeRequest V (nI a) (nI b)) h75 (r := -3) (by decide) ⟨_, request_full h75.1 h8 ha (by omega) (by omega), h75.1⟩) (fun x76 t76 q => ?_)
      obtain ⟨hx76, h76⟩ := q
      have hx76 : x76 = -3 := hx76
      refine Go.f e0 ?_
      unfold f_L_law_J543
      exact Go.t (by rw [h8]; rfl) (Go.t hx76 (lc_end (H.same h76) (by rw [hx76]; decide) H hk))
theorem lc_610 (h : AS N hs tx v1 G v3) (H : HD T t v w b N hs) (hk : NX' T t k85) : Go (f_L_law_J610 L xs k85 (nI t) (nI v) (nI w) (nI b) (nI (nQ N)) v1 v2 G v3) Tr := by
  have hbd := h.1.b
  have hN := H.1
  have m1 := (md H (n := 3) (by omega) (by omega)).1
  have l1 := Nat.mod_lt v (show 3 > 0 by omega)
  unfold f_L_law_J610
  rw [show (3 : Int32) = nI 3 from rfl, m1, show (1 : Int32) = nI 1 from rfl, nI_add, Nat.add_comm 1 (v % 3)]
  rcases Nat.lt_or_ge (v % 3) (nQ N) with c | c
  · obtain ⟨V', N', e1, hK', e2, e3⟩ := cancel_K2 h.1 c
    have hr := h.1.2.1.2.2.2.2.2.2.2.1 (v % 3) c
    refine Go.b2 (chg_ok (opC := fun V => f_X0_dropRequest V (nI (v % 3 + 1))) (v2 := v2) h (by rw [i_lt, i_0]; omega) ⟨V', e1, hK'⟩) (fun x93 t93 q => ?_)
    obtain ⟨hx, h93⟩ := q
    have hx : x93 = N (212 + 3 * (v % 3) + 1) := hx
    have h93 : AS N' ((N :: hs).take 4) tx t93.1 t93.2.2.1 t93.2.2.2 := h93
    refine Go.t (nI_lt c (by omega)) (Go.f (by rw [hx, i_le, i_0]; omega) (Go.rd (rc10 h93) (Go.t ?_ ?_)))
    · rw [nQ_of e2 (by omega), nI_subN (by omega)]
    · exact lc_end (H.new h93 (by rw [e3]; omega)) (by rw [hx]; omega) H hk
  · refine Go.b2 (cancel_badc (v2 := v2) h (p := nI (v % 3 + 1)) (Or.inr (nI_lt (by omega) (by omega)))) (fun x93 t93 q => ?_)
    obtain ⟨hx, h93⟩ := q
    have hx : x93 = -1 := hx
    refine Go.f (fun e => by rw [i_lt, nI_toInt (by omega), nI_toInt (by omega)] at e; omega) (Go.t hx (lc_end (H.same h93) (by rw [hx]; decide) H hk))
theorem lc_672 (h : AS N hs tx v1 G v3) (H : HD T t v w b N hs) (hk : NX' T t k85) : Go (f_L_law_J672 L xs k85 (nI t) (nI v) (nI w) (nI b) (nI (nQ N)) v1 v2 G v3) Tr := by
  have hbd := h.1.b
  have hlo := h.1.2.1.2.1.1
  have hN := H.1
  have hT := H.2.2.1
  have m1 := (md H (n := 40) (by omega) (by omega)).1
  have l1 := Nat.mod_lt v (show 40 > 0 by omega)
  have i1 : (1 : Int32).toInt = 1 := rfl
  have t1 : (nI (v % 40)).toInt = (v % 40 : Nat) := nI_toInt (by omega)
  have s1 : (N 0 + 1).toInt = (N 0).toInt + 1 := by rw [fb_addI (by omega) (by omega), i1]
  unfold f_L_law_J672
  refine Go.rd (rc2 h) (Go.rd (rc11 h) ?_)
  rw [show (40 : Int32) = nI 40 from rfl, m1]
  have eP : (1 : Int32) + nI (v % 40) = nI (1 + v % 40) := by rw [show (1 : Int32) = nI 1 from rfl, nI_add]
  rw [eP]
  refine Go.b2 (tick_go h (P := 1 + v % 40) (by omega) (by omega) (by omega)) (fun x102 t102 q => ?_)
  obtain ⟨hx, hTF, hF, h102⟩ := q
  have hx : x102 = nI (nQ N - nQ (itN (1 + v % 40) N)) := hx
  have h102 : AS (itN (1 + v % 40) N) ((N :: hs).take 4) tx t102.1 t102.2.2.1 t102.2.2.2 := h102
  have hTF : TF (1 + v % 40) N (itN (1 + v % 40) N) := hTF
  have hF : FR (nW (itN (1 + v % 40) N)) (nQ (itN (1 + v % 40) N)) (itN (1 + v % 40) N) := hF
  have hb2 := h102.1.b
  have hle := hTF.2.1
  have tx' : x102.toInt = (nQ N - nQ (itN (1 + v % 40) N) : Nat) := by rw [hx, nI_toInt (by omega)]
  have hLB : LB (T + 50) t102.1 t102.2.2.1 t102.2.2.2 := H.new h102 (by rw [hTF.1]; omega)
  refine Go.rd (rc11 h102) (Go.t ?_ (Go.rd (rc2 h102) (Go.t ?_ (Go.rd (rc10 h102) (Go.t ?_ (Go.rd (rc10 h102) ?_))))))
  · rw [hx, hTF.2.2.1]; grind
  · rw [i_eq, hTF.1, fb_addI (by omega) (by omega), s1, t1]; omega
  · rw [hx, nI_subN (by omega)]
    congr 1
    omega
  · rcases Nat.eq_zero_or_pos (nQ (itN (1 + v % 40) N)) with c | c
    · exact Go.t (by rw [c]; rfl) (lc_end hLB (by omega) H hk)
    · obtain ⟨w0, hw0, f1, f2⟩ := hF c
      have r0 : f_X3_requestAt t102.1 t102.2.1 t102.2.2.1 t102.2.2.2 1 0 = some (nI w0) := by
        have := rq_k (v2 := t102.2.1) h102 (i := 0) (k := 0) c (by omega)
        rw [show itN (1 + v % 40) N (212 + 3 * 0 + 0) = nI w0 from f1] at this
        exact this
      refine Go.f (nI_ne0 c (by omega)) (Go.rd r0 (Go.b2 (able_go h102 hw0) (fun x112 t112 q => ?_)))
      obtain ⟨hx2, h112⟩ := q
      have hx2 : x112.toInt = abl (itN (1 + v % 40) N) w0 12 w0 := hx2
      have h112 : AS (itN (1 + v % 40) N) ((N :: hs).take 4) tx t112.1 t112.2.2.1 t112.2.2.2 := h112
      have r1 : f_X3_requestAt t112.1 t112.2.1 t112.2.2.1 t112.2.2.2 1 1 = some (itN (1 + v % 40) N 213) := rq_k (v2 := t112.2.1) h112 (i := 0) (k := 1) c (by omega)
      refine Go.rd r1 (Go.f (fun e => by rw [i_le] at e; omega) (lc_end (H.new h112 (by rw [hTF.1]; omega)) (by omega) H hk))
theorem setc_go (h : AS N hs tx v1 G v3) (p1 p2 : Int32) : Go (f_X3_set v1 v2 G v3 p1 p2) (fun r => -3 ≤ r.1.toInt ∧ ((AS N hs tx r.2.1 r.2.2.2.1 r.2.2.2.2) ∨ ∃ N', AS N' ((N :: hs).take 4) tx r.2.1 r.2.2.2.1 r.2.2.2.2 ∧ N' 0 = N 0)) := by
  rcases set_K2 h.1 p1 p2 with e | ⟨r, V', N', e, hK, e0, hr⟩
  · exact (chg_err (opC := fun V => f_X0_changeSetting V p1 p2) (v2 := v2) h (r := -1) (by decide) ⟨_, e, h.1⟩).mono (fun a q => ⟨by rw [q.1]; decide, Or.inl q.2⟩)
  · exact (chg_ok (opC := fun V => f_X0_changeSetting V p1 p2) (v2 := v2) h (by rw [i_lt, i_0]; omega) ⟨V', e, hK⟩).mono (fun a q => ⟨by rw [q.1]; omega, Or.inr ⟨N', q.2, e0⟩⟩)
theorem lc_783 (h : AS N hs tx v1 G v3) (H : HD T t v w b N hs) (hk : NX' T t k85) : Go (f_L_law_J783 L xs k85 (nI t) (nI v) (nI w) (nI b) v1 v2 G v3) Tr := by
  have hN := H.1
  have nx : ∀ (p1 p2 : Int32), Go (b2 (f_X3_set v1 v2 G v3 p1 p2) fun x t' => (f_L_law_J1143 L xs k85 (nI t) (nI v) (nI w) (nI b) x t'.1 t'.2.1 t'.2.2.1 t'.2.2.2)) Tr := by
    intro p1 p2
    refine Go.b2 (setc_go h p1 p2) (fun x t' q => ?_)
    obtain ⟨q1, q2⟩ := q
    have q1 : -3 ≤ x.toInt := q1
    rcases q2 with q2 | ⟨N', q2, e0⟩
    · exact lc_end (H.same q2) q1 H hk
    · exact lc_end (H.new q2 (by rw [e0]; omega)) q1 H hk
  unfold f_L_law_J783
  by_cases c : (nI v - nI v / 2 * 2) = 0
  · exact Go.t c (nx _ _)
  · exact Go.f c (nx _ _)
theorem lc_1101 (h : AS N hs tx v1 G v3) (H : HD T t v w b N hs) (hk : NX' T t k85) : Go (f_L_law_J1101 L xs k85 (nI t) (nI v) (nI w) (nI b) v1 v2 G v3) Tr := by
  have hN := H.1
  have hl : hs.length ≤ 4 := by obtain ⟨-, ⟨o, hH⟩, -⟩ := id h; exact hH.1.2
  unfold f_L_law_J1101
  refine Go.rd (rc13 h) ?_
  cases hs with
  | nil =>
    refine Go.b2 (undo_0 h) (fun x168 t168 q => ?_)
    obtain ⟨hx, h168⟩ := q
    have hx : x168 = -2 := hx
    refine Go.t rfl ?_
    unfold f_L_law_J1131
    exact Go.t hx (lc_end (H.same h168) (by rw [hx]; decide) H hk)
  | cons M hs =>
    refine Go.b2 (undo_s h) (fun x168 t168 q => ?_)
    obtain ⟨hx, h168⟩ := q
    have hx : x168 = nI hs.length := hx
    have h168 : AS M hs tx t168.1 t168.2.2.1 t168.2.2.2 := h168
    have hl' : hs.length + 1 ≤ 4 := hl
    have ty : (nI hs.length).toInt = hs.length := nI_toInt (by omega)
    refine Go.f (show ¬ nI (hs.length + 1) = 0 from nI_ne0 (by omega) (by omega)) ?_
    unfold f_L_law_J1131
    refine Go.t (by rw [hx]; exact (nI_pred _).symm) (lc_end ⟨M, hs, tx, h168, ?_, ?_⟩ (by rw [hx]; omega) H hk)
    · have := H.2.1 M List.mem_cons_self
      omega
    · intro P hP
      have := H.2.1 P (List.mem_cons_of_mem _ hP)
      omega
/-! the text -/
theorem typ (h : AS N hs tx v1 G v3) {c : Nat} {p r : Int32} (hp : nI c = p) (hr : nI (tx.length + 1) = r) (h1 : 32 ≤ c) (h2 : c ≤ 126) (hl : tx.length < 60) : Go (f_X3_type v1 v2 G v3 p) (fun t => t.1 = r ∧ AS N hs (tx ++ [c]) t.2.1 t.2.2.2.1 t.2.2.2.2) := by
  subst hp; subst hr
  exact type_go h h1 h2 hl
theorem ckt {γ : Type} {o : Option (Int32 × (FV × FV × (Nat → FV) × FV))} {r : Int32} {N : NN} {hs : List NN} {ty : List Nat} {k : (FV × FV × (Nat → FV) × FV) → Option γ} {Q : γ → Prop} (tz : List Nat) (h : Go o (fun t => t.1 = r ∧ AS N hs ty t.2.1 t.2.2.2.1 t.2.2.2.2)) (e : ty = tz) (hk : ∀ t : FV × FV × (Nat → FV) × FV, AS N hs tz t.1 t.2.2.1 t.2.2.2 → Go (k t) Q) : Go (b2 o fun x t => if x = r then k t else none) Q := by
  subst e
  exact ck h hk
theorem lc_983a {M : NN} {z : Int64} (h : AS M (N :: hs.take 3) (TX (b % 10)) v1 G v3) (H : HD T t v w b N hs) (hK : ∃ V, K2 V N) (hk : NX' T t k85) (hn : 0 < nW N) (hz : PrN M z) {y15 : Int32} (hM : M = dwN (itN 9 N) (nW N) 0 (nI (b % 10)) z0) (h0 : 0 < b % 10) (hp : ((b % 10 : Nat) : Int) ≤ abl (itN 9 N) 0 12 0) : Go (f_L_law_J983 L xs k85 (nI t) (nI v) (nI w) (nI b) 2 (nI (b % 10)) y15 z v1 v2 G v3) Tr := by
  have hN := H.1
  have hT := H.2.2.1
  have l1 := Nat.mod_lt b (show 10 > 0 by omega)
  have tb : (nI (b % 10)).toInt = (b % 10 : Nat) := nI_toInt (by omega)
  have hl3 : (hs.take 3).length ≤ 3 := List.length_take_le 3 hs
  unfold f_L_law_J983
  refine Go.t rfl (Go.b2 (undo_s h) (fun x t1 q => ?_))
  obtain ⟨hx, h1⟩ := q
  have hx : x = nI (hs.take 3).length := hx
  have h1 : AS N (hs.take 3) (TX (b % 10)) t1.1 t1.2.2.1 t1.2.2.2 := h1
  have hb1 := h1.1.b
  refine Go.f (by rw [hx]; exact nI_pos (by omega)) (Go.b2 (tick_go h1 (P := 9) (by omega) (by omega) (by omega)) (fun x2 t2 q => ?_))
  obtain ⟨hx2, hTF, -, h2⟩ := q
  have hx2 : x2 = nI (nQ N - nQ (itN 9 N)) := hx2
  have h2 : AS (itN 9 N) ((N :: hs.take 3).take 4) (TX (b % 10)) t2.1 t2.2.2.1 t2.2.2.2 := h2
  have hw4 := (h2.1.2.1.2.2.2.2.1 0 (by rw [hTF.well]; exact hn)).2.2.2.2.2
  refine Go.f (by rw [hx2]; exact nI_pos (by omega)) (Go.b2 (drawc_go (w := 0) h2 (by rw [hTF.well]; exact hn) (b := nI (b % 10)) (by omega) (by omega) (by omega)) (fun x3 t3 q => ?_))
  obtain ⟨hx3, h3⟩ := q
  have hx3 : x3 = nI (b % 10) - jmin (nI (b % 10)) (itN 9 N (8 + 12 * 0 + 4)) := hx3
  have h3 : AS (dwN (itN 9 N) (nW (itN 9 N)) 0 (nI (b % 10)) z0) ((itN 9 N :: (N :: hs.take 3).take 4).take 4) (TX (b % 10)) t3.1 t3.2.2.1 t3.2.2.2 := h3
  rw [hTF.well, ← hM] at h3
  have e0 : M 0 = itN 9 N 0 := by rw [hM, dwN_lo (by omega)]
  refine Go.f (by rw [hx3, i_lt, i_0, fb_subI (by rw [jmin_toInt]; omega) (by rw [jmin_toInt]; omega), jmin_toInt]; omega) (Go.rd (hz _ _ _ _ _ _ h3) (Go.t rfl ?_))
  refine lc_end ⟨M, _, _, h3, by rw [e0, hTF.1]; omega, fun P hP => ?_⟩ (by decide) H hk
  have hP := List.mem_of_mem_take hP
  rcases List.mem_cons.mp hP with e | hP
  · rw [e, hTF.1]; omega
  · have hP := List.mem_of_mem_take hP
    rcases List.mem_cons.mp hP with e | hP
    · rw [e]; omega
    · have := H.2.1 P (List.mem_of_mem_take hP)
      omega
theorem lc_817 (h : AS N hs tx v1 G v3) (H : HD T t v w b N hs) (hk : NX' T t k85) (hn : 0 < nW N) : Go (f_L_law_J817 L xs k85 (nI t) (nI v) (nI w) (nI b) v1 v2 G v3) Tr := by
  have hN := H.1
  have hT := H.2.2.1
  have l1 := Nat.mod_lt b (show 10 > 0 by omega)
  have m1 := (md H (n := 10) (by omega) (by omega)).2.2
  have tb : (nI (b % 10)).toInt = (b % 10 : Nat) := nI_toInt (by omega)
  have hl : tx.length ≤ 60 := h.2.2.1
  unfold f_L_law_J817
  rw [show (10 : Int32) = nI 10 from rfl, m1]
  refine Go.b2 (clear_go h) (fun x0 t0 q => ?_)
  obtain ⟨hx0, h0⟩ := q
  have hx0 : x0 = nI tx.length := hx0
  have h0 : AS N hs [] t0.1 t0.2.2.1 t0.2.2.2 := h0
  refine Go.f (by rw [hx0]; exact nI_pos (by omega)) ?_
  refine ckt [116] (typ (c := 116) h0 rfl rfl (by omega) (by omega) (by simp)) rfl (fun t1 h1 => ?_)
  refine ckt [116, 57] (typ (c := 57) h1 rfl rfl (by omega) (by omega) (by simp)) rfl (fun t2 h2 => ?_)
  refine ckt [116, 57, 59] (typ (c := 59) h2 rfl rfl (by omega) (by omega) (by simp)) rfl (fun t3 h3 => ?_)
  refine ckt [116, 57, 59, 100] (typ (c := 100) h3 rfl rfl (by omega) (by omega) (by simp)) rfl (fun t4 h4 => ?_)
  refine ckt [116, 57, 59, 100, 48] (typ (c := 48) h4 rfl rfl (by omega) (by omega) (by simp)) rfl (fun t5 h5 => ?_)
  refine ckt [116, 57, 59, 100, 48, 44] (typ (c := 44) h5 rfl rfl (by omega) (by omega) (by simp)) rfl (fun t6 h6 => ?_)
  refine ckt [116, 57, 59, 100, 48, 44, 48 + b % 10] (typ (c := 48 + b % 10) h6 (by rw [show (48 : Int32) = nI 48 from rfl, nI_add]) rfl (by omega) (by omega) (by simp)) rfl (fun t7 h7 => ?_)
  refine ckt (TX (b % 10)) (typ (c := 59) h7 rfl rfl (by omega) (by omega) (by simp)) rfl (fun t8 h8 => ?_)
  have c14 : ∀ {hs' : List NN} {M : NN} {w1 w2 w3 : FV} {F : Nat → FV}, AS M hs' (TX (b % 10)) w1 F w3 → f_X3_count w1 w2 F w3 14 = some 8 := fun g => rc14 g
  have run := fun (U : FV) (hU : K2 U N) => run_TX l1 hU hn (by omega) h8.2.2
  by_cases c : 0 < b % 10 ∧ ((b % 10 : Nat) : Int) ≤ abl (itN 9 N) 0 12 0
  · refine Go.b2 (fault_of h8 (p := 1) (Or.inr rfl) (P := fun x => x = -4) (fun U hU => ?_)) (fun x9 t9 q => ?_)
    · obtain ⟨U', w, r1, r2, r3, -, -, r4⟩ := run U hU
      exact ⟨U', w, r1, r2, r3, if_pos (r4 c.1 c.2).1⟩
    · obtain ⟨hx9, h9⟩ := q
      have hx9 : x9 = -4 := hx9
      have h9 : AS N hs (TX (b % 10)) t9.1 t9.2.2.1 t9.2.2.2 := h9
      have run9 := fun (U : FV) (hU : K2 U N) => run_TX l1 hU hn (by omega) h9.2.2
      refine Go.b2 (play_ok h9 (r := 2) (M := dwN (itN 9 N) (nW N) 0 (nI (b % 10)) z0) (by decide) (fun U hU => ?_)) (fun x10 t10 q => ?_)
      · obtain ⟨U', w, r1, r2, r3, -, -, r4⟩ := run9 U hU
        exact ⟨U', w, r1, r2, r3, (r4 c.1 c.2).1, (r4 c.1 c.2).2.1, (r4 c.1 c.2).2.2⟩
      · obtain ⟨hx10, h10⟩ := q
        have hx10 : x10 = 2 := hx10
        have h10 : AS (dwN (itN 9 N) (nW N) 0 (nI (b % 10)) z0) ((N :: hs).take 4) (TX (b % 10)) t10.1 t10.2.2.1 t10.2.2.2 := h10
        rw [take4] at h10
        subst hx10; subst hx9
        refine Go.bind (print_go h10) (fun z hz => Go.t rfl ?_)
        unfold f_L_law_J963
        exact Go.t rfl (Go.rd (c14 h10) (Go.t rfl (lc_983a h10 H ⟨_, h.1⟩ hk hn hz rfl c.1 c.2)))
  · have val : ∀ U, K2 U N → ∀ v3', TXT (TX (b % 10)) v3' → ∃ U' w, f_X2_runOn U v3' = some (U', w) ∧ w 1 = v3' 1 ∧ w 0 0 = v3' 0 0 ∧ w 0 4 = (if b % 10 = 0 then 2 else 3) ∧ w 0 3 = 3 := by
      intro U hU v3' hX
      obtain ⟨U', w, r1, r2, r3, r4, r5, -⟩ := run_TX l1 hU hn (by omega) hX
      refine ⟨U', w, r1, r2, r3, ?_⟩
      rcases Nat.eq_zero_or_pos (b % 10) with q | q
      · rw [if_pos q]; exact r4 q
      · rw [if_neg (by omega)]
        exact r5 q (by
          rcases int_lg (abl (itN 9 N) 0 12 0) ((b % 10 : Nat) : Int) with g | g
          · exact g
          · exact absurd ⟨q, g⟩ c)
    have ne4 : ¬ ((if b % 10 = 0 then (2 : Int32) else 3) = 0) := by split <;> decide
    refine Go.b2 (fault_of h8 (p := 1) (Or.inr rfl) (P := fun x => x = (if b % 10 = 0 then 2 else 3)) (fun U hU => ?_)) (fun x9 t9 q => ?_)
    · obtain ⟨U', w, r1, r2, r3, r4, r5⟩ := val U hU _ h8.2.2
      refine ⟨U', w, r1, r2, r3, ?_⟩
      rw [if_neg (by rw [r4]; exact ne4), if_neg n10, r4]
    · obtain ⟨hx9, h9⟩ := q
      have hx9 : x9 = (if b % 10 = 0 then 2 else 3) := hx9
      have h9 : AS N hs (TX (b % 10)) t9.1 t9.2.2.1 t9.2.2.2 := h9
      refine Go.b2 (play_no h9 (fun U hU => ?_)) (fun x10 t10 q => ?_)
      · obtain ⟨U', w, r1, r2, r3, r4, r5⟩ := val U hU _ h9.2.2
        exact ⟨U', w, r1, r2, r3, by rw [r4]; exact ne4⟩
      · obtain ⟨hx10, h10⟩ := q
        have hx10 : x10 = -2 := hx10
        have h10 : AS N hs (TX (b % 10)) t10.1 t10.2.2.1 t10.2.2.2 := h10
        subst hx10
        refine Go.bind (print_go h10) (fun z hz => Go.f (by rw [hx9]; split <;> decide) ?_)
        unfold f_L_law_J963
        refine Go.t rfl (Go.rd (c14 h10) (Go.t rfl ?_))
        unfold f_L_law_J983
        refine Go.f (by decide) (Go.b2 (fault_of h10 (p := 0) (Or.inl rfl) (P := fun x => x = 3) (fun U hU => ?_)) (fun x11 t11 q => ?_))
        · obtain ⟨U', w, r1, r2, r3, r4, r5⟩ := val U hU _ h10.2.2
          refine ⟨U', w, r1, r2, r3, ?_⟩
          rw [if_neg (by rw [r4]; exact ne4), if_pos rfl, r5]
        · obtain ⟨hx11, h11⟩ := q
          have hx11 : x11 = 3 := hx11
          have h11 : AS N hs (TX (b % 10)) t11.1 t11.2.2.1 t11.2.2.2 := h11
          refine Go.t hx11 ?_
          rcases Nat.eq_zero_or_pos (b % 10) with q | q
          · rw [if_pos q] at hx9
            refine Go.t (by rw [q]; rfl) ?_
            unfold f_L_law_J1063
            exact Go.t hx9 (Go.t (by rw [q]; rfl) (lc_end (H.same h11) (by decide) H hk))
          · rw [if_neg (by omega)] at hx9
            have hne : ¬ nI (b % 10) = 0 := nI_ne0 q (by omega)
            have hb11 := h11.1.b
            refine Go.f hne ?_
            unfold f_L_law_J1063
            refine Go.t hx9 (Go.f hne (Go.b2 (tick_go h11 (P := 9) (by omega) (by omega) (by omega)) (fun x12 t12 q2 => ?_)))
            obtain ⟨hx12, hTF, -, h12⟩ := q2
            have hx12 : x12 = nI (nQ N - nQ (itN 9 N)) := hx12
            have h12 : AS (itN 9 N) ((N :: hs).take 4) (TX (b % 10)) t12.1 t12.2.2.1 t12.2.2.2 := h12
            have hp : abl (itN 9 N) 0 12 0 < (nI (b % 10)).toInt := by
              rcases int_lg (abl (itN 9 N) 0 12 0) ((b % 10 : Nat) : Int) with g | g
              · omega
              · exact absurd ⟨q, g⟩ c
            refine Go.f (by rw [hx12]; exact nI_pos (by omega)) (Go.b2 (drawc_no (w := 0) h12 (by rw [hTF.well]; exact hn) (b := nI (b % 10)) (by omega) (by omega) hp) (fun x13 t13 q3 => ?_))
            obtain ⟨hx13, h13⟩ := q3
            have hx13 : x13 = -2 := hx13
            exact Go.t hx13 (lc_end (H.new h13 (by rw [hTF.1]; omega)) (by decide) H hk)
end LD
