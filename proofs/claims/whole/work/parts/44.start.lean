set_option maxHeartbeats 40000000 in
set_option maxRecDepth 100000 in
theorem law_start (Inv : FV → FV → (Nat → FV) → FV → FV → Prop) (hsim : SimAll Inv) (h0 : Inv V0 V0 G0 (fun _ _ => 0) V0M) {p : Program} {e : Env} {s : State} {m : MethodId} {below : List Frame} {meth : Method} {c : Code} (l : Launch) {b L : Nat} {xs : Nat → Int32} (hL : L ≤ 2560) (C0 : lw_At p s m meth c b L xs) : W p l e room_1 s m #[Value.ref b] below meth c s.heap [] 0 0 (lw_Z below #[Value.ref b] s) (entryFrame m ([Value.ref b] : List Value).toArray 4) := by
  obtain ⟨hx, hb, hr, hml, hown, hts0, hX, hbl, hlocks, hgv⟩ := id C0
  have hown : s.vm.findClass RL = some m.cls := hown
  have htb : ∀ w ∈ tables_1, w.before #[Value.ref b] s = true := fun w h => hts0 w (List.mem_append_right _ h)
  have hts : ∀ w ∈ wsL_law, w.before #[Value.ref b] s = true := fun w h => hts0 w (wsL_law_in w h)
  have hA : ∀ q : Nat, s.heap.size ≤ q → (fun q : Nat => s.heap.size ≤ q) q := fun _ h => h
  obtain ⟨c0, iS0, hKn0⟩ := u_known (C := RX0) (T := TX0) (N := 10) (n := 10) hts0 inX0 (htb (.instantiable RX0 10) (List.mem_of_getElem? (i := 18) rfl))
  obtain ⟨c1, iS1, hKn1⟩ := u_known (C := RX1) (T := TX1) (N := 3) (n := 3) hts0 inX1 (htb (.instantiable RX1 3) (List.mem_of_getElem? (i := 69) rfl))
  obtain ⟨c2, iS2, hKn2⟩ := u_known (C := RX2) (T := TX2) (N := 7) (n := 7) hts0 inX2 (htb (.instantiable RX2 7) (List.mem_of_getElem? (i := 89) rfl))
  obtain ⟨c3, iS3, hKn3⟩ := u_known (C := RX3) (T := TX3) (N := 4) (n := 4) hts0 inX3 (htb (.instantiable RX3 4) (List.mem_of_getElem? (i := 10) rfl))
  obtain ⟨c4, iS4, hKn4⟩ := u_known (C := RX4) (T := TX4) (N := 12) (n := 12) hts0 inX4 (htb (.instantiable RX4 12) (List.mem_of_getElem? (i := 394) rfl))
  obtain ⟨dC, dI, hKc⟩ : ∃ (dC : Nat → ClassId) (dI : Nat → Nat → Nat), ∀ (k : Nat) (q : vw_C), vwCl[k]? = some q → u_Kn s q.1 q.2.1 q.2.2 (dC k) (dI k) := by
    refine ⟨fun k => if k = 0 then c0 else if k = 1 then c1 else if k = 2 then c2 else if k = 3 then c3 else c4, fun k => if k = 0 then iS0 else if k = 1 then iS1 else if k = 2 then iS2 else if k = 3 then iS3 else iS4, ?_⟩
    intro k q hq
    match k, hq with
    | 0, hq => cases hq; exact hKn0
    | 1, hq => cases hq; exact hKn1
    | 2, hq => cases hq; exact hKn2
    | 3, hq => cases hq; exact hKn3
    | 4, hq => cases hq; exact hKn4
    | k + 5, hq => simp [vwCl] at hq
  have w_i := htb (.arrayClass .int) (List.mem_of_getElem? (i := 67) rfl)
  have w_c := htb (.arrayClass .char) (List.mem_of_getElem? (i := 120) rfl)
  have w_a := htb (.arrayOver (.array .int)) (List.mem_of_getElem? (i := 24) rfl)
  have w_o := htb (.arrayOver (.object "NoonWells$Field")) (List.mem_of_getElem? (i := 75) rfl)
  obtain ⟨e0, k0, p0, g01, g02, g03⟩ := Cond.arrayClass_spec w_i
  obtain ⟨e2, k2, p2, g21, g22, g23⟩ := Cond.arrayClass_spec w_c
  obtain ⟨p1, e1, k1, g11, g12, g13, g14, g15⟩ := aoa_spec w_a
  obtain ⟨p3, e3, k3, g31, g32, g33, g34, g35⟩ := Cond.arrayOver_spec w_o
  obtain ⟨cy, hcy⟩ : ∃ cy : Nat → ClassId, va_K (dC, dI) vwCl (TY cy) s := by
    refine ⟨fun k => if k = 0 then e0 else if k = 1 then e1 else if k = 2 then e2 else e3, hKc, ?_⟩
    intro k q hq
    match k, hq with
    | 0, hq => cases hq; exact ⟨fun n z => ⟨(fun k h => by cases h), k0, g02, p0, g03⟩, g01⟩
    | 1, hq => cases hq; exact ⟨fun n z => ⟨(fun k h => by cases h), k1, g13, p1, g14⟩, g15⟩
    | 2, hq => cases hq; exact ⟨fun n z => ⟨(fun k h => by cases h), k2, g22, p2, g23⟩, g21⟩
    | 3, hq => cases hq; exact ⟨fun n z => ⟨(fun k h => by cases h), k3, g33, p3, g34⟩, k3, p3, g33, g34, g31, g35⟩
    | k + 4, hq => simp [TY] at hq
  have hNX : NX s := by
    intro w hw
    simp only [NXl, List.mem_cons, List.not_mem_nil, or_false] at hw
    rcases hw with rfl | rfl | rfl | rfl | rfl | rfl | rfl | rfl | rfl | rfl | rfl | rfl | rfl | rfl | rfl | rfl | rfl | rfl
    · exact va_Nw.of rfl (htb _ (List.mem_of_getElem? (i := 26) rfl))
    · exact va_Nw.of rfl (htb _ (List.mem_of_getElem? (i := 28) rfl))
    · exact va_Nw.of rfl (htb _ (List.mem_of_getElem? (i := 30) rfl))
    · exact va_Nw.of rfl (htb _ (List.mem_of_getElem? (i := 32) rfl))
    · exact va_Nw.of rfl (htb _ (List.mem_of_getElem? (i := 34) rfl))
    · exact va_Nw.of rfl (htb _ (List.mem_of_getElem? (i := 36) rfl))
    · exact va_Nw.of rfl (htb _ (List.mem_of_getElem? (i := 38) rfl))
    · exact va_Nw.of rfl (htb _ (List.mem_of_getElem? (i := 40) rfl))
    · exact va_Nw.of rfl (htb _ (List.mem_of_getElem? (i := 42) rfl))
    · exact va_Nw.of rfl (htb _ (List.mem_of_getElem? (i := 43) rfl))
    · exact va_Nw.of rfl (htb _ (List.mem_of_getElem? (i := 45) rfl))
    · exact va_Nw.of rfl (htb _ (List.mem_of_getElem? (i := 80) rfl))
    · exact va_Nw.of rfl (htb _ (List.mem_of_getElem? (i := 97) rfl))
    · exact va_Nw.of rfl (htb _ (List.mem_of_getElem? (i := 100) rfl))
    · exact va_Nw.of rfl (htb _ (List.mem_of_getElem? (i := 102) rfl))
    · exact va_Nw.of rfl (htb _ (List.mem_of_getElem? (i := 104) rfl))
    · exact va_Nw.of rfl (htb _ (List.mem_of_getElem? (i := 90) rfl))
    · exact va_Nw.of rfl (htb _ (List.mem_of_getElem? (i := 213) rfl))
  have hK : KX (dC, dI) cy s := ⟨hcy, hNX⟩
  have hKY : KY (dC, dI) cy s := ⟨hK, va_AO.of w_o, va_AOA.of w_a⟩
  have hS : va_S (fun q : Nat => s.heap.size ≤ q) s.heap s.heap [] := va_S.rf
  have hP : va_P (dC, dI) vwCl ([] : va_W) s.heap := fun k q h => by simp at h
  have hD : va_D (fun q : Nat => s.heap.size ≤ q) ([] : va_W) := ⟨fun i j p q h => by simp at h, fun k q h => by simp at h⟩
  have hl := lv_entry ([.ref b]) (n := 4) (Nat.le_of_ble_eq_true rfl)
  rw [lg_entry_eq]
  generalize (lg_sl ([.ref b]) ++ List.replicate (4 - (lg_sl ([.ref b])).length) Slot.unset).toArray = ls at hl ⊢
  have hl : lv_has ls 4 [(0, .ref b)] := hl
  refine va_new (ci := 3) (fs := [.null, .null, .null, .null]) (C := RX3) (T := TX3) (N := 4) hx hb hts0 inX3 tyX3 tyX3_ok hown (hts (.classLink RL 7 RX3) (by decide +kernel)) (hts (.instantiable RX3 4) (by decide +kernel)) (hts (.initialized RX3) (by decide +kernel)) hK.1 hP hD hS hA rfl (fun j hj => by rcases (show j = 0 ∨ j = 1 ∨ j = 2 ∨ j = 3 by omega) with rfl | rfl | rfl | rfl <;> rfl) (Nat.le_of_ble_eq_true rfl) (Nat.le_of_ble_eq_true rfl) dL_law_0 (fun q1 H hP hD hS => ?_)
  have hP : va_P (dC, dI) vwCl (([] : va_W) ++ [(q1, .inr (3, [.null, .null, .null, .null]))]) H := hP
  have hD : va_D (fun q : Nat => s.heap.size ≤ q) (([] : va_W) ++ [(q1, .inr (3, [.null, .null, .null, .null]))]) := hD
  refine lv_dup hx hb dL_law_3 rfl ?_
  refine gc_C (fun _ _ => 0 : Nat → Nat → Nat) (n := 0) (w' := (fun u => NW cy u V0 V0 G0 (fun _ _ => 0))) hx hb hml hown hts hKY hP hD hS hA hl.1 ⟨Nat.le_of_ble_eq_true rfl, Nat.le_of_ble_eq_true rfl⟩ (C_X3_init l (dC, dI) cy q1) gL_law_X3_init (hts (.initialized RX3) (by decide +kernel)) (hts (.methodLink RL 9 yX3_init) (by decide +kernel)) (hts (.instanceMethod yX3_init) (by decide +kernel)) rfl rfl (by decide +kernel) ⟨by decide, by decide⟩ (fun u => Jn.same) rfl (Nat.le_of_ble_eq_true rfl) dL_law_4 (fun aN H locs hpN hP hD hS => ?_)
  have hqN : q1 = aN 0 0 := hpN.symm
  rw [hqN]
  refine lv_astore_n (lv' := [(1, .ref (aN 0 0)), (0, .ref b)]) hx hb dL_law_7 rfl hl (by decide) rfl (fun ls hl => ?_)
  refine va_new (ci := 4) (fs := [.null, .null, .null, .null, .int 0, .int 0, .int 0, .int 0, .int 0, .null, .int 0, .int 0]) (C := RX4) (T := TX4) (N := 12) hx hb hts0 inX4 tyX4 tyX4_ok hown (hts (.classLink RL 10 RX4) (by decide +kernel)) (hts (.instantiable RX4 12) (by decide +kernel)) (hts (.initialized RX4) (by decide +kernel)) hK.1 hP hD hS hA rfl (fun j hj => by rcases (show j = 0 ∨ j = 1 ∨ j = 2 ∨ j = 3 ∨ j = 4 ∨ j = 5 ∨ j = 6 ∨ j = 7 ∨ j = 8 ∨ j = 9 ∨ j = 10 ∨ j = 11 by omega) with rfl | rfl | rfl | rfl | rfl | rfl | rfl | rfl | rfl | rfl | rfl | rfl <;> rfl) (Nat.le_of_ble_eq_true rfl) (Nat.le_of_ble_eq_true rfl) dL_law_8 (fun q2 H hP hD hS => ?_)
  have hP : va_P (dC, dI) vwCl (NW cy aN V0 V0 G0 (fun _ _ => 0) ++ [(q2, .inr (4, [.null, .null, .null, .null, .int 0, .int 0, .int 0, .int 0, .int 0, .null, .int 0, .int 0]))]) H := hP
  have hD : va_D (fun q : Nat => s.heap.size ≤ q) (NW cy aN V0 V0 G0 (fun _ _ => 0) ++ [(q2, .inr (4, [.null, .null, .null, .null, .int 0, .int 0, .int 0, .int 0, .int 0, .null, .int 0, .int 0]))]) := hD
  refine lv_dup hx hb dL_law_11 rfl ?_
  refine gc_C (fun _ => 0 : Nat → Nat) (n := 0) (w' := (fun u => NW cy aN V0 V0 G0 (fun _ _ => 0) ++ MW cy u V0M)) hx hb hml hown hts hKY hP hD hS hA hl.1 ⟨Nat.le_of_ble_eq_true rfl, Nat.le_of_ble_eq_true rfl⟩ (C_X4_init l (dC, dI) cy q2) gL_law_X4_init (hts (.initialized RX4) (by decide +kernel)) (hts (.methodLink RL 12 yX4_init) (by decide +kernel)) (hts (.instanceMethod yX4_init) (by decide +kernel)) rfl rfl (by decide +kernel) ⟨by decide, by decide⟩ (fun u => Jn.perm List.perm_append_comm List.perm_append_comm) rfl (Nat.le_of_ble_eq_true rfl) dL_law_12 (fun aM H locs hpM hP hD hS => ?_)
  have hqM : q2 = aM 0 := hpM.symm
  rw [hqM]
  refine lv_astore_n (lv' := [(2, .ref (aM 0)), (1, .ref (aN 0 0)), (0, .ref b)]) hx hb dL_law_15 rfl hl (by decide) rfl (fun ls hl => ?_)
  refine lv_iconst (v := 0) hx hb dL_law_16 (by decide) ?_
  refine lv_istore_n (lv' := [(3, .int 0), (2, .ref (aM 0)), (1, .ref (aN 0 0)), (0, .ref b)]) hx hb dL_law_17 rfl hl (by decide) rfl (fun ls hl => ?_)
  refine W.widen (k := 600000) (n := 7302250) (Nat.le_of_ble_eq_true rfl) (Nat.le_of_ble_eq_true rfl) ?_
  exact law_loop Inv hsim hL C0 hK aN aM (L + 1) 0 (by omega) (by omega) V0 V0 G0 (fun _ _ => 0) V0M h0 H _ ls hP hD hS (lv_sub hl [3, 2, 1, 0] rfl)
