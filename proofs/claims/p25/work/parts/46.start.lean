set_option maxHeartbeats 40000000 in
set_option maxRecDepth 100000 in
theorem law_start {p : Program} {e : Env} {s : State} {m : MethodId} {below : List Frame} {meth : Method} {c : Code} (l : Launch) {b L : Nat} {xs : Nat → Int32} (hL : L ≤ 260) (hgo : ∃ (r : Int32) (w1 w2 : FV) (F : Nat → FV) (w3 : FV), f_L_law L xs V0 V0 G0 (fun _ _ => 0) = some (r, (w1, w2, F, w3))) (C0 : lw_At p s m meth c b L xs) : W p l e room_1 s m #[Value.ref b] below meth c s.heap [] 0 0 (lw_Z below #[Value.ref b] s) (entryFrame m ([Value.ref b] : List Value).toArray 18) := by
  obtain ⟨hx, hb, hr, hml, hown, hts0, hX, hbl, hlocks, hgv⟩ := id C0
  have hown : s.vm.findClass RL = some m.cls := hown
  have htb : ∀ w ∈ tables_1, w.before #[Value.ref b] s = true := fun w h => hts0 w (List.mem_append_right _ h)
  have hts : ∀ w ∈ wsL_law, w.before #[Value.ref b] s = true := fun w h => hts0 w (wsL_law_in w h)
  have hA : ∀ q : Nat, s.heap.size ≤ q → (fun q : Nat => s.heap.size ≤ q) q := fun _ h => h
  obtain ⟨c0, iS0, hKn0⟩ := u_known (C := RX0) (T := TX0) (N := 10) (n := 10) hts0 inX0 (htb (.instantiable RX0 10) (List.mem_of_getElem? (i := 17) rfl))
  obtain ⟨c1, iS1, hKn1⟩ := u_known (C := RX1) (T := TX1) (N := 3) (n := 3) hts0 inX1 (htb (.instantiable RX1 3) (List.mem_of_getElem? (i := 68) rfl))
  obtain ⟨c2, iS2, hKn2⟩ := u_known (C := RX2) (T := TX2) (N := 7) (n := 7) hts0 inX2 (htb (.instantiable RX2 7) (List.mem_of_getElem? (i := 88) rfl))
  obtain ⟨c3, iS3, hKn3⟩ := u_known (C := RX3) (T := TX3) (N := 4) (n := 4) hts0 inX3 (htb (.instantiable RX3 4) (List.mem_of_getElem? (i := 9) rfl))
  obtain ⟨dC, dI, hKc⟩ : ∃ (dC : Nat → ClassId) (dI : Nat → Nat → Nat), ∀ (k : Nat) (q : vw_C), vwCl[k]? = some q → u_Kn s q.1 q.2.1 q.2.2 (dC k) (dI k) := by
    refine ⟨fun k => if k = 0 then c0 else if k = 1 then c1 else if k = 2 then c2 else c3, fun k => if k = 0 then iS0 else if k = 1 then iS1 else if k = 2 then iS2 else iS3, ?_⟩
    intro k q hq
    match k, hq with
    | 0, hq => cases hq; exact hKn0
    | 1, hq => cases hq; exact hKn1
    | 2, hq => cases hq; exact hKn2
    | 3, hq => cases hq; exact hKn3
    | k + 4, hq => simp [vwCl] at hq
  have w_i := htb (.arrayClass .int) (List.mem_of_getElem? (i := 66) rfl)
  have w_c := htb (.arrayClass .char) (List.mem_of_getElem? (i := 119) rfl)
  have w_a := htb (.arrayOver (.array .int)) (List.mem_of_getElem? (i := 23) rfl)
  have w_o := htb (.arrayOver (.object "NoonWells$Field")) (List.mem_of_getElem? (i := 74) rfl)
  obtain ⟨e0, k0, p0, g01, g02, g03⟩ := Cond.arrayClass_spec w_i
  obtain ⟨e2, k2, p2, g21, g22, g23⟩ := Cond.arrayClass_spec w_c
  obtain ⟨p1, e1, k1, g11, g12, g13, g14, g15⟩ := aoa_spec w_a
  obtain ⟨p3, e3, k3, g31, g32, g33, g34, g35⟩ := Cond.arrayOver_spec w_o
  obtain ⟨cy, hcy⟩ : ∃ cy : Nat → ClassId, va_K (dC, dI) vwCl (TY cy) s := by
    refine ⟨fun k => if k = 0 then e0 else if k = 1 then e1 else if k = 2 then e2 else e3, hKc, ?_⟩
    intro k q hq
    match k, hq with
    | 0, hq => cases hq; exact ⟨fun n z => ⟨(fun k h => by cases h), k0, g02, p0, g03⟩, g01⟩
    | 1, hq => cases hq; exact ⟨fun n z => ⟨(fun k h => by cases h), k1, g13, p1, g14⟩, g15⟩
    | 2, hq => cases hq; exact ⟨fun n z => ⟨(fun k h => by cases h), k2, g22, p2, g23⟩, g21⟩
    | 3, hq => cases hq; exact ⟨fun n z => ⟨(fun k h => by cases h), k3, g33, p3, g34⟩, k3, p3, g33, g34, g31, g35⟩
    | k + 4, hq => simp [TY] at hq
  have hNX : NX s := by
    intro w hw
    simp only [NXl, List.mem_cons, List.not_mem_nil, or_false] at hw
    rcases hw with rfl | rfl | rfl | rfl | rfl | rfl | rfl | rfl | rfl | rfl | rfl | rfl | rfl | rfl | rfl | rfl | rfl | rfl
    · exact va_Nw.of rfl (htb _ (List.mem_of_getElem? (i := 25) rfl))
    · exact va_Nw.of rfl (htb _ (List.mem_of_getElem? (i := 27) rfl))
    · exact va_Nw.of rfl (htb _ (List.mem_of_getElem? (i := 29) rfl))
    · exact va_Nw.of rfl (htb _ (List.mem_of_getElem? (i := 31) rfl))
    · exact va_Nw.of rfl (htb _ (List.mem_of_getElem? (i := 33) rfl))
    · exact va_Nw.of rfl (htb _ (List.mem_of_getElem? (i := 35) rfl))
    · exact va_Nw.of rfl (htb _ (List.mem_of_getElem? (i := 37) rfl))
    · exact va_Nw.of rfl (htb _ (List.mem_of_getElem? (i := 39) rfl))
    · exact va_Nw.of rfl (htb _ (List.mem_of_getElem? (i := 41) rfl))
    · exact va_Nw.of rfl (htb _ (List.mem_of_getElem? (i := 42) rfl))
    · exact va_Nw.of rfl (htb _ (List.mem_of_getElem? (i := 44) rfl))
    · exact va_Nw.of rfl (htb _ (List.mem_of_getElem? (i := 79) rfl))
    · exact va_Nw.of rfl (htb _ (List.mem_of_getElem? (i := 96) rfl))
    · exact va_Nw.of rfl (htb _ (List.mem_of_getElem? (i := 99) rfl))
    · exact va_Nw.of rfl (htb _ (List.mem_of_getElem? (i := 101) rfl))
    · exact va_Nw.of rfl (htb _ (List.mem_of_getElem? (i := 103) rfl))
    · exact va_Nw.of rfl (htb _ (List.mem_of_getElem? (i := 89) rfl))
    · exact va_Nw.of rfl (htb _ (List.mem_of_getElem? (i := 204) rfl))
  have hK : KX (dC, dI) cy s := ⟨hcy, hNX⟩
  have hKY : KY (dC, dI) cy s := ⟨hK, va_AO.of w_o, va_AOA.of w_a⟩
  have hS : va_S (fun q : Nat => s.heap.size ≤ q) s.heap s.heap [] := va_S.rf
  have hP : va_P (dC, dI) vwCl ([] : va_W) s.heap := fun k q h => by simp at h
  have hD : va_D (fun q : Nat => s.heap.size ≤ q) ([] : va_W) := ⟨fun i j p q h => by simp at h, fun k q h => by simp at h⟩
  have hl := lv_entry ([.ref b]) (n := 18) (Nat.le_of_ble_eq_true rfl)
  rw [lg_entry_eq]
  generalize (lg_sl ([.ref b]) ++ List.replicate (18 - (lg_sl ([.ref b])).length) Slot.unset).toArray = ls at hl ⊢
  have hl : lv_has ls 18 [(0, .ref b)] := hl
  refine va_new (ci := 3) (fs := [.null, .null, .null, .null]) (C := RX3) (T := TX3) (N := 4) hx hb hts0 inX3 tyX3 tyX3_ok hown (hts (.classLink RL 14 RX3) (by decide +kernel)) (hts (.instantiable RX3 4) (by decide +kernel)) (hts (.initialized RX3) (by decide +kernel)) hK.1 hP hD hS hA rfl (fun j hj => by rcases (show j = 0 ∨ j = 1 ∨ j = 2 ∨ j = 3 by omega) with rfl | rfl | rfl | rfl <;> rfl) (Nat.le_of_ble_eq_true rfl) (Nat.le_of_ble_eq_true rfl) dL_law_0 (fun q1 H hP hD hS => ?_)
  have hP : va_P (dC, dI) vwCl (([] : va_W) ++ [(q1, .inr (3, [.null, .null, .null, .null]))]) H := hP
  have hD : va_D (fun q : Nat => s.heap.size ≤ q) (([] : va_W) ++ [(q1, .inr (3, [.null, .null, .null, .null]))]) := hD
  refine lv_dup hx hb dL_law_3 rfl ?_
  refine gc_C (fun _ _ => 0 : Nat → Nat → Nat) (n := 0) (w' := (fun u => NW cy u V0 V0 G0 (fun _ _ => 0))) hx hb hml hown hts hKY hP hD hS hA hl.1 ⟨Nat.le_of_ble_eq_true rfl, Nat.le_of_ble_eq_true rfl⟩ (C_X3_init l (dC, dI) cy q1) gL_law_X3_init (hts (.initialized RX3) (by decide +kernel)) (hts (.methodLink RL 93 yX3_init) (by decide +kernel)) (hts (.instanceMethod yX3_init) (by decide +kernel)) rfl rfl (by decide +kernel) ⟨by decide, by decide⟩ (fun u => Jn.same) rfl (Nat.le_of_ble_eq_true rfl) dL_law_4 (fun aN H locs hpN hP hD hS => ?_)
  have hqN : q1 = aN 0 0 := hpN.symm
  rw [hqN]
  refine lv_astore_n (lv' := [(1, .ref (aN 0 0)), (0, .ref b)]) hx hb dL_law_7 rfl hl (by decide) rfl (fun ls hl => ?_)
  refine W.widen (k := 600000) (n := 7302250) (Nat.le_of_ble_eq_true rfl) (Nat.le_of_ble_eq_true rfl) ?_
  obtain ⟨r, w1, w2, F, w3, hgo⟩ := hgo
  exact law_rest hL C0 hK aN V0 V0 G0 (fun _ _ => 0) r w1 w2 F w3 hgo H _ ls hP hD hS hl
