/-! ===== texts: orders ===== -/
theorem do_draw {U V Vm : FV} (hK : K U (Vm 1)) (hQ : TQ 2 V Vm) : ∃ (x : Int32) (U' : FV) (N' : Nat → Int32), f_X2_doOrder U V 100 = some (x, (U', V)) ∧ f_X4_does Vm 100 = some (x, sM Vm N') ∧ K U' N' := by
  obtain ⟨n, d, q, hO, hC⟩ := hK
  obtain ⟨r, V', N', e1, e2, e3, e4, e5, -⟩ := draw_sim (Vm := Vm) hO (V 2 0) (V 2 1)
  rw [sM_self] at e2
  refine ⟨r, V', N', ?_, ?_, K.of e3 (e4 _ hC) (by rw [e5 0 (by omega)])⟩
  · unfold f_X2_doOrder
    rw [if_pos rfl, e1, b2_mk]
  · unfold f_X4_does
    rw [if_pos rfl, ← hQ 0 (by omega), ← hQ 1 (by omega), e2, b2_mk]
theorem do_request {U V Vm : FV} (hK : K U (Vm 1)) (hQ : TQ 2 V Vm) : ∃ (x : Int32) (U' : FV) (N' : Nat → Int32), f_X2_doOrder U V 114 = some (x, (U', V)) ∧ f_X4_does Vm 114 = some (x, sM Vm N') ∧ K U' N' := by
  obtain ⟨n, d, q, hO, hC⟩ := hK
  obtain ⟨r, V', N', q', e1, e2, e3, e4, e5, -⟩ := request_sim (Vm := Vm) hO (V 2 0) (V 2 1)
  rw [sM_self] at e2
  refine ⟨r, V', N', ?_, ?_, K.of e3 (e4 _ hC) (by rw [e5])⟩
  · unfold f_X2_doOrder
    rw [if_neg (by decide), if_neg (by decide), if_pos rfl, e1, b2_mk]
  · unfold f_X4_does
    rw [if_neg (by decide), if_pos rfl, ← hQ 0 (by omega), ← hQ 1 (by omega), e2, b2_mk]
theorem do_tick {U V Vm : FV} (hK : K U (Vm 1)) (hQ : TQ 1 V Vm) : ∃ (x : Int32) (U' : FV) (N' : Nat → Int32), f_X2_doOrder U V 116 = some (x, (U', V)) ∧ f_X4_does Vm 116 = some (x, sM Vm N') ∧ K U' N' := by
  obtain ⟨n, d, q, hO, hC⟩ := hK
  obtain ⟨r, V', N', q', e1, e2, e3, e4⟩ := passes_sim (Vm := Vm) hO hC (V 2 0)
  rw [sM_self] at e2
  refine ⟨r, V', N', ?_, ?_, K.of e3 e4 rfl⟩
  · unfold f_X2_doOrder
    rw [if_neg (by decide), if_neg (by decide), if_neg (by decide), if_pos rfl, e1, b2_mk]
  · unfold f_X4_does
    rw [if_neg (by decide), if_neg (by decide), if_pos rfl, ← hQ 0 (by omega), e2, b2_mk]
theorem do_drought {U V Vm : FV} (hK : K U (Vm 1)) (hQ : TQ 3 V Vm) : ∃ (x : Int32) (U' : FV) (N' : Nat → Int32), f_X2_doOrder U V 110 = some (x, (U', V)) ∧ f_X4_does Vm 110 = some (x, sM Vm N') ∧ K U' N' := by
  obtain ⟨n, d, q, hO, hC⟩ := hK
  obtain ⟨r, V', N', d', e1, e2, e3, e4, e5, -⟩ := drought_sim (by decide) (Vm := Vm) hO (V 2 0) (U 0 3 + V 2 1) (U 0 3 + V 2 2)
  rw [sM_self] at e2
  refine ⟨r, V', N', ?_, ?_, K.of e3 (e4 _ hC) (by rw [e5])⟩
  · unfold f_X2_doOrder
    rw [if_neg (by decide), if_pos rfl, e1, b2_mk]
  · unfold f_X4_does
    rw [if_neg (by decide), if_neg (by decide), if_neg (by decide), ← hQ 0 (by omega), ← hQ 1 (by omega), ← hQ 2 (by omega), ← hO.1.1.2.2.2.2.2.2.1, e2, b2_mk]
noncomputable def OT (n L : Int32) (V2 : FV) : Option FV := (b2 (f_X4_reads V2 n) fun x6 V6 => (if x6 = 0 then (lt1 (st V6 0 4 1) fun V14 => some V14) else (b2 (f_X4_does V6 L) fun x8 V8 => (if x8 = ((-1)) then (lt1 (st V8 0 4 2) fun V13 => some V13) else (if 0 ≤ x8 then (lt1 (st V8 0 4 0) fun V11 => some V11) else (lt1 (st V8 0 4 3) fun V12 => some V12))))))
noncomputable def OC (k : FV → FV → Option (FV × FV)) (U V7 : FV) (L : Int32) : Option (FV × FV) := (b2 (f_X2_readOrder V7 L) fun x9 V9 => (if x9 = 0 then (lt1 (st V9 0 4 1) fun V17 => some ((U, V17))) else (b2 (f_X2_doOrder U V9 L) fun x11 t11 => (if 0 ≤ x11 then (lt1 (st t11.2 0 2 ((t11.2 0 2) + 1)) fun V13 => (k t11.1 V13)) else (if x11 = ((-1)) then (lt1 (st t11.2 0 4 2) fun V16 => some ((t11.1, V16))) else (lt1 (st t11.2 0 4 3) fun V15 => some ((t11.1, V15))))))))
def GM (V V' : FV) : Prop := (∀ a, a = 2 ∨ a = 3 ∨ a = 4 → V' a = V a) ∧ ∀ j, j ≠ 3 → j ≠ 4 → V' 0 j = V 0 j
def GC (V V' : FV) (z : Int32) : Prop := V' 1 = V 1 ∧ V' 0 0 = V 0 0 ∧ V' 0 3 = V 0 3 ∧ (z = 0 → V' 0 2 = V 0 2 + 1 ∧ V' 0 4 = V 0 4) ∧ (¬ z = 0 → V' 0 4 = z)
def OO (len p : Nat) (U V Vm : FV) (M : Option FV) (C : (FV → FV → Option (FV × FV)) → Option (FV × FV)) : Prop := ∃ (z : Int32) (p' : Nat) (U' V' Vm' : FV), M = some Vm' ∧ Vm' 0 4 = z ∧ (∀ k, C k = if z = 0 then k U' V' else some (U', V')) ∧ TR len p' V' Vm' ∧ p < p' ∧ K U' (Vm' 1) ∧ GC V V' z ∧ GM Vm Vm'
theorem TR.far {len p : Nat} {V Vm V' Vm' : FV} (h : TR len p V Vm) (e1 : V' 1 = V 1) (e4 : Vm' 4 = Vm 4) (f0 : V' 0 0 = V 0 0) (f1 : V' 0 1 = V 0 1) (f2 : Vm' 0 2 = Vm 0 2) (f3 : Vm' 0 3 = Vm 0 3) : TR len p V' Vm' := by
  obtain ⟨hb, h0, h2, h1, h3, ht⟩ := h
  refine ⟨hb, by rw [f0]; exact h0, by rw [f2]; exact h2, by rw [f1]; exact h1, by rw [f3]; exact h3, ?_⟩
  rw [e1, e4]
  exact ht
theorem ot_sim {len p n : Nat} {L : Int32} (hn : 1 ≤ n) (hn3 : n ≤ 3) (hL : f_X2_numbersOf L = some (nI n)) (hdo : ∀ U V Vm : FV, K U (Vm 1) → TQ n V Vm → ∃ (x : Int32) (U' : FV) (N' : Nat → Int32), f_X2_doOrder U V L = some (x, (U', V)) ∧ f_X4_does Vm L = some (x, sM Vm N') ∧ K U' N')
    {U V Vm : FV} (hR : TR len p V Vm) (hp : p < len) (hK : K U (Vm 1)) : OO len p U V Vm (OT (nI n) L (st Vm 0 3 (Vm 0 3 + 1))) (fun k => OC k U V L) := by
  have hR' := hR
  obtain ⟨hb, h0, h2, h1, h3, ht⟩ := hR'
  obtain ⟨m, hm⟩ := FUEL_ge (k := n + 1) (by omega)
  have hA := hR.adv (V' := st V 0 1 (nI (p + 1))) (Vm' := st Vm 0 3 (nI (p + 1))) hp Fc.st1 Fm.st3 st_eq st_eq
  obtain ⟨b, p', V1, Vm1, e1, e2, e3, e4, e5, e6, e7⟩ := reads_sim (p1 := L) hn hn3 n 0 (p + 1) m m _ _ (by omega) hA (fun j hj => absurd hj (by omega))
  have c1 : Fc V V1 := Fc.st1.tr e5
  have m1 : Fm Vm Vm1 := Fm.st3.tr e6
  have er : f_X2_readOrder V L = some (b, V1) := by
    unfold f_X2_readOrder
    rw [lt1_mk, hL, ob_s, h1, nI_1, hm]
    exact e1
  have em : f_X4_reads (st Vm 0 3 (Vm 0 3 + 1)) (nI n) = some (b, Vm1) := by
    unfold f_X4_reads
    rw [h3, nI_1, hm]
    exact e2
  have hK1 : K U (Vm1 1) := by rw [m1.1 1 (by omega)]; exact hK
  rcases e3 with hb0 | ⟨hb1, hQ⟩
  · subst hb0
    refine ⟨1, p', U, st V1 0 4 1, st Vm1 0 4 1, ?_, st_eq, fun k => ?_, e4.far (st_cell (by omega)) (st_cell (by omega)) (st_ne (by omega)) (st_ne (by omega)) (st_ne (by omega)) (st_ne (by omega)), by omega, ?_, ⟨?_, ?_, ?_, fun h => absurd h (by decide), fun _ => st_eq⟩, ⟨fun a ha => ?_, fun j h3 h4 => ?_⟩⟩
    · unfold OT
      rw [em, b2_mk, if_pos rfl, lt1_mk]
    · show OC k U V L = _
      unfold OC
      rw [er, b2_mk, if_pos rfl, lt1_mk, if_neg (by decide)]
    · rw [st_cell (by omega)]; exact hK1
    · rw [st_cell (by omega)]; exact c1.1
    · rw [st_ne (by omega)]; exact c1.2 0 (by omega)
    · rw [st_ne (by omega)]; exact c1.2 3 (by omega)
    · rw [st_cell (by omega)]; exact m1.1 a (by omega)
    · rw [st_ne (by omega)]; exact m1.2 j h3
  · subst hb1
    obtain ⟨x, U', N', d1, d2, d3⟩ := hdo U V1 Vm1 hK1 hQ
    have hR1 : ∀ {z w : Int32} {i : Nat}, (i = 2 ∨ i = 4) → TR len p' (st V1 0 i w) (st (sM Vm1 N') 0 4 z) := fun hi => e4.far (st_cell (by omega)) (st_cell (by omega)) (st_ne (by omega)) (st_ne (by omega)) (st_ne (by omega)) (st_ne (by omega))
    have hG : ∀ {z : Int32}, GM Vm (st (sM Vm1 N') 0 4 z) := ⟨fun a ha => by
      rw [st_cell (by omega)]
      unfold sM
      rw [if_neg (by omega)]
      exact m1.1 a (by omega), fun j h3 h4 => by rw [st_ne (by omega)]; exact m1.2 j h3⟩
    have hKz : ∀ {z : Int32}, K U' (st (sM Vm1 N') 0 4 z 1) := by
      intro z
      rw [st_cell (by omega)]
      exact d3
    have bad : ∀ z : Int32, ¬ z = 0 → OT (nI n) L (st Vm 0 3 (Vm 0 3 + 1)) = some (st (sM Vm1 N') 0 4 z) → (∀ k, OC k U V L = some (U', st V1 0 4 z)) → OO len p U V Vm (OT (nI n) L (st Vm 0 3 (Vm 0 3 + 1))) (fun k => OC k U V L) := by
      intro z hz g1 g2
      refine ⟨z, p', U', st V1 0 4 z, st (sM Vm1 N') 0 4 z, g1, st_eq, fun k => by rw [if_neg hz]; exact g2 k, hR1 (Or.inr rfl), by omega, hKz, ⟨?_, ?_, ?_, fun h => absurd h hz, fun _ => st_eq⟩, hG⟩
      · rw [st_cell (by omega)]; exact c1.1
      · rw [st_ne (by omega)]; exact c1.2 0 (by omega)
      · rw [st_ne (by omega)]; exact c1.2 3 (by omega)
    by_cases hx0 : 0 ≤ x
    · have hxm : ¬ x = -1 := by
        intro e
        rw [e] at hx0
        exact absurd hx0 (by decide)
      refine ⟨0, p', U', st V1 0 2 (V1 0 2 + 1), st (sM Vm1 N') 0 4 0, ?_, st_eq, fun k => ?_, hR1 (Or.inl rfl), by omega, hKz, ⟨?_, ?_, ?_, fun _ => ⟨?_, ?_⟩, fun h => absurd rfl h⟩, hG⟩
      · unfold OT
        rw [em, b2_mk, if_neg (by decide), d2, b2_mk, if_neg hxm, if_pos hx0, lt1_mk]
      · show OC k U V L = _
        unfold OC
        rw [er, b2_mk, if_neg (by decide), d1, b2_mk, if_pos hx0, lt1_mk, if_pos rfl]
      · rw [st_cell (by omega)]; exact c1.1
      · rw [st_ne (by omega)]; exact c1.2 0 (by omega)
      · rw [st_ne (by omega)]; exact c1.2 3 (by omega)
      · rw [st_eq, c1.2 2 (by omega)]
      · rw [st_ne (by omega)]; exact c1.2 4 (by omega)
    · by_cases hx1 : x = -1
      · refine bad 2 (by decide) ?_ (fun k => ?_)
        · unfold OT
          rw [em, b2_mk, if_neg (by decide), d2, b2_mk, if_pos hx1, lt1_mk]
        · unfold OC
          rw [er, b2_mk, if_neg (by decide), d1, b2_mk, if_neg hx0, if_pos hx1, lt1_mk]
      · refine bad 3 (by decide) ?_ (fun k => ?_)
        · unfold OT
          rw [em, b2_mk, if_neg (by decide), d2, b2_mk, if_neg hx1, if_neg hx0, lt1_mk]
        · unfold OC
          rw [er, b2_mk, if_neg (by decide), d1, b2_mk, if_neg hx0, if_neg hx1, lt1_mk]
theorem order_sim {len p : Nat} {U V Vm : FV} (hR : TR len p V Vm) (hp : p < len) (hK : K U (Vm 1)) : OO len p U V Vm (f_X4_order Vm) (fun k => OC k U V (V 1 p)) := by
  have hR' := hR
  obtain ⟨hb, h0, h2, h1, h3, ht⟩ := hR'
  unfold f_X4_order
  rw [here_lt hR hp, ob_s, lt1_mk]
  by_cases a1 : V 1 p = 100
  · rw [a1, if_pos rfl, if_neg (show ¬ (100 : Int32) = 116 by decide), if_neg (show ¬ (100 : Int32) = 110 by decide)]
    exact ot_sim (n := 2) (by omega) (by omega) (if_pos rfl) (fun U V Vm => do_draw) hR hp hK
  · rw [if_neg a1]
    by_cases a2 : V 1 p = 114
    · rw [a2, if_pos rfl, if_neg (show ¬ (114 : Int32) = 116 by decide), if_neg (show ¬ (114 : Int32) = 110 by decide)]
      exact ot_sim (n := 2) (by omega) (by omega) rfl (fun U V Vm => do_request) hR hp hK
    · rw [if_neg a2]
      by_cases a3 : V 1 p = 116
      · rw [a3, if_pos rfl, if_pos rfl]
        exact ot_sim (n := 1) (by omega) (by omega) rfl (fun U V Vm => do_tick) hR hp hK
      · rw [if_neg a3]
        by_cases a4 : V 1 p = 110
        · rw [a4, if_pos rfl, if_neg (show ¬ (110 : Int32) = 116 by decide), if_pos rfl]
          exact ot_sim (n := 3) (by omega) (by omega) rfl (fun U V Vm => do_drought) hR hp hK
        · rw [if_neg a4, lt1_mk]
          have hA := hR.adv (V' := st V 0 1 (nI (p + 1))) (Vm' := st Vm 0 3 (nI (p + 1))) hp Fc.st1 Fm.st3 st_eq st_eq
          rw [h3, nI_1]
          refine ⟨1, p + 1, U, st (st V 0 1 (nI (p + 1))) 0 4 1, st (st Vm 0 3 (nI (p + 1))) 0 4 1, rfl, st_eq, fun k => ?_, hA.far (st_cell (by omega)) (st_cell (by omega)) (st_ne (by omega)) (st_ne (by omega)) (st_ne (by omega)) (st_ne (by omega)), by omega, ?_, ⟨?_, ?_, ?_, fun h => absurd h (by decide), fun _ => st_eq⟩, ⟨fun a ha => ?_, fun j h3 h4 => ?_⟩⟩
          · have er : f_X2_readOrder V (V 1 p) = some (0, st V 0 1 (nI (p + 1))) := by
              unfold f_X2_readOrder f_X2_numbersOf
              obtain ⟨m, hm⟩ := FUEL_ge (k := 1) (by omega)
              rw [lt1_mk, if_neg a1, if_neg a4, if_neg a2, if_neg a3, ob_s, h1, nI_1, hm]
              rfl
            show OC k U V (V 1 p) = _
            unfold OC
            rw [er, b2_mk, if_pos rfl, lt1_mk, if_neg (by decide)]
          · rw [st_cell (by omega), st_cell (by omega)]; exact hK
          · rw [st_cell (by omega), st_cell (by omega)]
          · rw [st_ne (by omega), st_ne (by omega)]
          · rw [st_ne (by omega), st_ne (by omega)]
          · rw [st_cell (by omega), st_cell (by omega)]
          · rw [st_ne (by omega), st_ne (by omega)]
