/-! ===== an object: its field, its history, its text ===== -/
def hd0 : NN := fun _ => 0
def HL (o : Nat) (hs : List NN) (G : Nat → FV) : Prop := (o < 5 ∧ hs.length ≤ 4) ∧ G 0 0 0 = nI o ∧ G 0 0 1 = nI hs.length ∧ ∀ i, i < hs.length → K2 (G ((o + i) % 5 + 1)) (hs.getD (hs.length - 1 - i) hd0)
def TXT (tx : List Nat) (v3 : FV) : Prop := tx.length ≤ 60 ∧ v3 0 0 = nI tx.length ∧ ∀ i, i < tx.length → v3 1 i = nI (tx.getD i 0)
def AS (N : NN) (hs : List NN) (tx : List Nat) (v1 : FV) (G : Nat → FV) (v3 : FV) : Prop := K2 v1 N ∧ (∃ o, HL o hs G) ∧ TXT tx v3
theorem AS.field {N : NN} {hs : List NN} {tx : List Nat} {v1 v1' v3 : FV} {G : Nat → FV} (h : AS N hs tx v1 G v3) (hK : K2 v1' N) : AS N hs tx v1' G v3 := ⟨hK, h.2⟩
theorem note_go {o : Nat} {hs : List NN} {G : Nat → FV} {v : FV} {N : NN} (hH : HL o hs G) (hK : K2 v N) : ∃ G', f_X1_note G v = some (G', v) ∧ HL o hs G' ∧ K2 (G' ((o + hs.length) % 5 + 1)) N := by
  obtain ⟨hb, g0, g1, hk⟩ := hH
  obtain ⟨X, e1, e2⟩ := copyFrom_eq (G ((o + hs.length) % 5 + 1)) v
  refine ⟨va_up G ((o + hs.length) % 5 + 1) X, ?_, ⟨hb, ?_, ?_, ?_⟩, ?_⟩
  · unfold f_X1_note
    rw [g0, g1, nI_add, md5 _ (by omega), ix_nI (by omega) (by omega), ob_s, e1, ob_s]
  · rw [va_up_at, if_neg (by omega)]; exact g0
  · rw [va_up_at, if_neg (by omega)]; exact g1
  · intro i hi
    rw [va_up_at, if_neg (by omega)]
    exact hk i hi
  · rw [va_up_at, if_pos rfl]
    exact hK.congrV e2
theorem keep_go {o : Nat} {hs : List NN} {G : Nat → FV} {N : NN} {v1 v2 v3 : FV} {r : Int32} (hH : HL o hs G) (hX : K2 (G ((o + hs.length) % 5 + 1)) N) (hr : ¬ r < 0) : ∃ G1 o', f_X3_keepIfDone v1 v2 G v3 r = some (r, (v1, v2, G1, v3)) ∧ HL o' ((N :: hs).take 4) G1 := by
  obtain ⟨hb, g0, g1, hk⟩ := hH
  by_cases hs4 : 4 ≤ hs.length
  · have h4 : hs.length = 4 := by omega
    have hl : ((N :: hs).take 4).length = 4 := by simp [h4]
    refine ⟨stG G 0 0 0 (nI ((o + 1) % 5)), (o + 1) % 5, ?_, ⟨by omega, ?_, ?_, ?_⟩⟩
    · unfold f_X3_keepIfDone f_X1_keep
      rw [if_neg hr, g1, h4, if_pos (show (4 : Int32) ≤ nI 4 from nI_le (a := 4) (b := 4) (by omega) (by omega)), lt1_mk, g0, nI_1, md5 _ (by omega), ob_s]
    · show st (G 0) 0 0 (nI ((o + 1) % 5)) 0 0 = _
      exact st_eq
    · show st (G 0) 0 0 (nI ((o + 1) % 5)) 0 1 = _
      rw [st_ne (by omega), g1, h4, hl]
    · intro i hi
      rw [hl] at hi ⊢
      show K2 (if ((o + 1) % 5 + i) % 5 + 1 = 0 then _ else G (((o + 1) % 5 + i) % 5 + 1)) _
      rw [if_neg (by omega)]
      have eg : ((N :: hs).take 4).getD (4 - 1 - i) hd0 = (N :: hs).getD (4 - 1 - i) hd0 := by
        rw [List.getD_eq_getElem?_getD, List.getD_eq_getElem?_getD, List.getElem?_take_of_lt (by omega)]
      rw [eg]
      by_cases ci : i = 3
      · subst ci
        rw [show ((o + 1) % 5 + 3) % 5 = (o + 4) % 5 by omega]
        rw [h4] at hX
        exact hX
      · have := hk (i + 1) (by omega)
        rw [h4, show 4 - 1 - (i + 1) = 2 - i by omega] at this
        rw [show ((o + 1) % 5 + i) % 5 = (o + (i + 1)) % 5 by omega, show 4 - 1 - i = (2 - i) + 1 by omega]
        exact this
  · have hl : (N :: hs).take 4 = N :: hs := List.take_of_length_le (by simp; omega)
    rw [hl]
    refine ⟨stG G 0 0 1 (nI (hs.length + 1)), o, ?_, ⟨⟨hb.1, by simp; omega⟩, ?_, ?_, ?_⟩⟩
    · unfold f_X3_keepIfDone f_X1_keep
      rw [if_neg hr, g1, if_neg (show ¬ (4 : Int32) ≤ nI hs.length from nI_ge (b := 4) (by omega) (by omega)), lt1_mk, nI_1, ob_s]
    · show st (G 0) 0 1 (nI (hs.length + 1)) 0 0 = _
      rw [st_ne (by omega)]; exact g0
    · show st (G 0) 0 1 (nI (hs.length + 1)) 0 1 = _
      rw [st_eq]; rfl
    · intro i hi
      have hi : i < hs.length + 1 := hi
      show K2 (if (o + i) % 5 + 1 = 0 then _ else G ((o + i) % 5 + 1)) ((N :: hs).getD (hs.length + 1 - 1 - i) hd0)
      rw [if_neg (by omega)]
      by_cases ci : i = hs.length
      · subst ci
        rw [show hs.length + 1 - 1 - hs.length = 0 by omega]
        exact hX
      · have := hk i (by omega)
        rw [show hs.length + 1 - 1 - i = (hs.length - 1 - i) + 1 by omega]
        exact this
/-- a change: an error leaves all as it was -/
theorem chg_err {opC : FV → Option (Int32 × FV)} {N : NN} {r : Int32} {hs : List NN} {tx : List Nat} {v1 v2 v3 : FV} {G : Nat → FV} (h : AS N hs tx v1 G v3) (hr : r < 0) (hop : ∃ V', opC v1 = some (r, V') ∧ K2 V' N) :
    Go ((f_X1_note G v1).bind fun t1 => (b2 (opC t1.2) fun x2 v12 => (b2 (f_X3_keepIfDone v12 v2 t1.1 v3 x2) fun x3 t3 => some (x3, (t3.1, t3.2.1, t3.2.2.1, t3.2.2.2))))) (fun t => t.1 = r ∧ AS N hs tx t.2.1 t.2.2.2.1 t.2.2.2.2) := by
  obtain ⟨hK, ⟨o, hH⟩, hT⟩ := h
  obtain ⟨G', e1, hH1, -⟩ := note_go hH hK
  obtain ⟨V', e2, hK'⟩ := hop
  rw [e1, ob_s, e2, b2_mk]
  show Go (b2 (f_X3_keepIfDone V' v2 G' v3 r) _) _
  rw [show f_X3_keepIfDone V' v2 G' v3 r = some (r, (V', v2, G', v3)) from if_pos hr, b2_mk]
  exact Go.ret ⟨rfl, hK', ⟨o, hH1⟩, hT⟩
theorem chg_ok {opC : FV → Option (Int32 × FV)} {N N' : NN} {r : Int32} {hs : List NN} {tx : List Nat} {v1 v2 v3 : FV} {G : Nat → FV} (h : AS N hs tx v1 G v3) (hr : ¬ r < 0) (hop : ∃ V', opC v1 = some (r, V') ∧ K2 V' N') :
    Go ((f_X1_note G v1).bind fun t1 => (b2 (opC t1.2) fun x2 v12 => (b2 (f_X3_keepIfDone v12 v2 t1.1 v3 x2) fun x3 t3 => some (x3, (t3.1, t3.2.1, t3.2.2.1, t3.2.2.2))))) (fun t => t.1 = r ∧ AS N' ((N :: hs).take 4) tx t.2.1 t.2.2.2.1 t.2.2.2.2) := by
  obtain ⟨hK, ⟨o, hH⟩, hT⟩ := h
  obtain ⟨G', e1, hH1, hX⟩ := note_go hH hK
  obtain ⟨V', e2, hK'⟩ := hop
  obtain ⟨G1, o', e3, hH2⟩ := keep_go (v1 := V') (v2 := v2) (v3 := v3) hH1 hX hr
  rw [e1, ob_s, e2, b2_mk]
  show Go (b2 (f_X3_keepIfDone V' v2 G' v3 r) _) _
  rw [e3, b2_mk]
  exact Go.ret ⟨rfl, hK', ⟨o', hH2⟩, hT⟩
/-! undo -/
theorem undo_0 {N : NN} {tx : List Nat} {v1 v2 v3 : FV} {G : Nat → FV} (h : AS N [] tx v1 G v3) : Go (f_X3_undo v1 v2 G v3) (fun t => t.1 = -2 ∧ AS N [] tx t.2.1 t.2.2.2.1 t.2.2.2.2) := by
  obtain ⟨hK, ⟨o, hH⟩, hT⟩ := h
  unfold f_X3_undo
  rw [if_pos (show G 0 0 1 = 0 from hH.2.2.1)]
  exact Go.ret ⟨rfl, hK, ⟨o, hH⟩, hT⟩
theorem undo_s {N M : NN} {hs : List NN} {tx : List Nat} {v1 v2 v3 : FV} {G : Nat → FV} (h : AS N (M :: hs) tx v1 G v3) : Go (f_X3_undo v1 v2 G v3) (fun t => t.1 = nI hs.length ∧ AS M hs tx t.2.1 t.2.2.2.1 t.2.2.2.2) := by
  obtain ⟨hK, ⟨o, hb, g0, g1, hk⟩, hT⟩ := h
  have hl : (M :: hs).length = hs.length + 1 := rfl
  rw [hl] at hb g1 hk
  have es : nI (hs.length + 1) - 1 = nI hs.length := nI_pred _
  have hg1 : stG G 0 0 1 (nI hs.length) 0 0 0 = nI o := by
    show st (G 0) 0 1 (nI hs.length) 0 0 = _
    rw [st_ne (by omega)]; exact g0
  have hg2 : stG G 0 0 1 (nI hs.length) 0 0 1 = nI hs.length := by
    show st (G 0) 0 1 (nI hs.length) 0 1 = _
    exact st_eq
  obtain ⟨X, e1, e2⟩ := copyFrom_eq v1 (stG G 0 0 1 (nI hs.length) ((o + hs.length) % 5 + 1))
  unfold f_X3_undo f_X1_giveBack
  rw [g1, if_neg (show ¬ nI (hs.length + 1) = 0 from nI_ne0 (by omega) (by omega)), if_neg (fun h => by rw [i_le, nI_toInt (by omega), i_0] at h; omega), es, lt1_mk, hg1, hg2, nI_add, md5 _ (by omega), ix_nI (by omega) (by omega), ob_s, e1, ob_s, ob_s]
  refine Go.ret ⟨hg2, ?_, ⟨o, ⟨hb.1, by omega⟩, hg1, hg2, ?_⟩, hT⟩
  · have := hk hs.length (by omega)
    rw [show hs.length + 1 - 1 - hs.length = 0 by omega] at this
    exact this.congrV e2
  · intro i hi
    show K2 (if (o + i) % 5 + 1 = 0 then st (G 0) 0 1 (nI hs.length) else G ((o + i) % 5 + 1)) (hs.getD (hs.length - 1 - i) hd0)
    rw [if_neg (by omega)]
    have := hk i (by omega)
    rw [show hs.length + 1 - 1 - i = (hs.length - 1 - i) + 1 by omega] at this
    exact this
/-! ===== what is read ===== -/
section RD
variable {N : NN} {hs : List NN} {tx : List Nat} {v1 v2 v3 : FV} {G : Nat → FV}
theorem rd_cnt (h : AS N hs tx v1 G v3) : f_X3_count v1 v2 G v3 0 = some (nI (nW N)) ∧ f_X3_count v1 v2 G v3 1 = some (nI (nD N)) ∧ f_X3_count v1 v2 G v3 2 = some (N 0) ∧ f_X3_count v1 v2 G v3 3 = some (suN N 4 (nW N)) ∧ f_X3_count v1 v2 G v3 4 = some (suN N 6 (nW N)) ∧ f_X3_count v1 v2 G v3 5 = some (suN N 7 (nW N)) ∧
    f_X3_count v1 v2 G v3 6 = some (suN N 8 (nW N) + suN N 9 (nW N)) ∧ f_X3_count v1 v2 G v3 7 = some (suN N 10 (nW N)) ∧ f_X3_count v1 v2 G v3 8 = some (suN N 11 (nW N)) ∧ f_X3_count v1 v2 G v3 9 = some (suN N 5 (nW N)) ∧ f_X3_count v1 v2 G v3 10 = some (nI (nQ N)) ∧ f_X3_count v1 v2 G v3 11 = some (N 7) ∧
    f_X3_count v1 v2 G v3 12 = some (N 1 - tod N) ∧ f_X3_count v1 v2 G v3 13 = some (nI hs.length) ∧ f_X3_count v1 v2 G v3 14 = some (nI tx.length) ∧ f_X3_count v1 v2 G v3 20 = some (N 1) ∧ f_X3_count v1 v2 G v3 21 = some (N 2) ∧ f_X3_count v1 v2 G v3 15 = some (-1) ∧ f_X3_count v1 v2 G v3 22 = some (-1) := by
  obtain ⟨hK, ⟨o, hH⟩, hT⟩ := h
  have hR := hK.1
  have hn := hK.b.1
  have hs : ∀ r, r < 12 → f_X0_sumOf v1 (nI r) = some (suN N r (nW N)) := fun r hr => sum0_eq hR hn hr
  obtain ⟨⟨a1, a2, a3, a4, a5, a6, a7, a8, a9, a10⟩, -⟩ := hR
  refine ⟨congrArg some a1, congrArg some a3, congrArg some a7, ?_, ?_, ?_, ?_, ?_, ?_, ?_, congrArg some a5, congrArg some a10, ?_, congrArg some hH.2.2.1, congrArg some hT.2.1, congrArg some a8, congrArg some a9, rfl, rfl⟩
  · exact (congrArg (fun o : Option Int32 => o.bind fun x => some x) (hs 4 (by omega)))
  · exact (congrArg (fun o : Option Int32 => o.bind fun x => some x) (hs 6 (by omega)))
  · exact (congrArg (fun o : Option Int32 => o.bind fun x => some x) (hs 7 (by omega)))
  · show ((f_X0_sumOf v1 (nI 8)).bind fun x11 => ((f_X0_sumOf v1 (nI 9)).bind fun x12 => some (x11 + x12))) = _
    rw [hs 8 (by omega), ob_s, hs 9 (by omega), ob_s]
  · exact (congrArg (fun o : Option Int32 => o.bind fun x => some x) (hs 10 (by omega)))
  · exact (congrArg (fun o : Option Int32 => o.bind fun x => some x) (hs 11 (by omega)))
  · exact (congrArg (fun o : Option Int32 => o.bind fun x => some x) (hs 5 (by omega)))
  · show ((f_X0_timeOfDay v1).bind fun x22 => some ((v1 4 0) - x22)) = _
    rw [tod_eq hK.ok, ob_s, a8]
theorem rd_tot (h : AS N hs tx v1 G v3) (k : Int32) : ∃ r, f_X3_count v1 v2 G v3 k = some r := by
  obtain ⟨r, e, -⟩ := count_sim (V2 := v2) (V3 := v3) (G := G) (Vm := fun a => if a = 1 then N else fun j => if j = 0 then G 0 0 1 else v3 0 0) h.1.ok rfl rfl k
  exact ⟨r, e⟩
theorem rd_well (h : AS N hs tx v1 G v3) (p k : Int32) : ∃ r, f_X3_wellOf v1 v2 G v3 p k = some r ∧ f_X4_wellOf (sM ZV N) p k = some r := wellOf_sim (Vm := sM ZV N) h.1.ok p k
theorem rd_above (h : AS N hs tx v1 G v3) (p k : Int32) : ∃ r, f_X3_aboveAt v1 v2 G v3 p k = some r ∧ f_X4_aboveAt (sM ZV N) p k = some r := aboveAt_sim (Vm := sM ZV N) h.1.ok p k
theorem rd_drought (h : AS N hs tx v1 G v3) (p k : Int32) : ∃ r, f_X3_droughtOf v1 v2 G v3 p k = some r ∧ f_X4_droughtOf (sM ZV N) p k = some r := droughtOf_sim (Vm := sM ZV N) h.1.ok p k
theorem rd_request (h : AS N hs tx v1 G v3) (p k : Int32) : ∃ r, f_X3_requestAt v1 v2 G v3 p k = some r ∧ f_X4_requestAt (sM ZV N) p k = some r := requestAt_sim (Vm := sM ZV N) h.1.ok p k
end RD
