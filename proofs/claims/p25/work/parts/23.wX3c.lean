set_option maxHeartbeats 4000000 in
set_option maxRecDepth 100000 in
theorem C_X3_possibleIn (l : Launch) (D : va_G) (cy : Nat → ClassId) (aN : Nat → Nat → Nat) (v1 : FV) (v2 : FV) (G : (Nat → FV)) (v3 : FV) (p1 : Int32) (p2 : Int32) (r : Int32) (v1' : FV) (v2' : FV) (G' : (Nat → FV)) (v3' : FV) (hc : f_X3_possibleIn v1 v2 G v3 p1 p2 = some (r, (v1', v2', G', v3'))) : ConI l yX3_possibleIn wsX3_possibleIn 4 144 D cy (fun (u : FV × FV × (Nat → FV) × FV) => NW cy aN u.1 u.2.1 u.2.2.1 u.2.2.2) [.ref (aN 0 0), .int p1, .int p2] ((v1, v2, G, v3)) ((v1', v2', G', v3')) r := by
  refine bodyI (cc := cX3_possibleIn) (maxL := 4) (ty := .int) (by decide +kernel) rfl (Nat.le_of_ble_eq_true rfl) ?_
  intro p e s m args below meth c A Q hx hb hml hts hown hK hP hD hA hS hend ls hl
  have hown : s.vm.findClass RX3 = some m.cls := hown
  have hP : va_P D vwCl (NW cy aN v1 v2 G v3) s.heap := hP
  have hD : va_D A (NW cy aN v1 v2 G v3) := hD
  have hl : lv_has ls 4 [(0, .ref (aN 0 0)), (1, .int p1), (2, .int p2)] := hl
  have hend : ∀ (H : Heap) (locs : List Loc) (pc : Nat) (ls : Array Slot) (v : Int32) (v1 : FV) (v2 : FV) (G : (Nat → FV)) (v3 : FV), v = r → (v1, v2, G, v3) = (v1', v2', G', v3') → narrow .int (.int v) = .int v → va_P D vwCl (NW cy aN v1 v2 G v3) H → va_D A (NW cy aN v1 v2 G v3) → va_S A s.heap H locs → decode cX3_possibleIn pc = .ok (.ireturn, 1) → W p l e (RM 4 144) s m args below meth c H locs 0 0 Q (F0 m pc ls [.int v]) := fun H locs pc ls v v1 v2 G v3 h1 h2 h3 h4 h5 h6 h7 => hend H locs pc ls v ((v1, v2, G, v3)) h1 h2 h3 h4 h5 h6 h7
  have fl_12 := hts (.fieldLink RX3 12 "NoonWells" "now" "LNoonWells$Field;") (by decide +kernel)
  have inw_X3 := (by decide +kernel : ∀ w ∈ u_ws RX3 TX3 4, w ∈ wsX3_possibleIn)
  have fl_16 := hts (.fieldLink RX3 16 "NoonWells" "trial" "LNoonWells$Field;") (by decide +kernel)
  have L33 : ∀ (n : Nat), ∀ (y1 y2 y3 : Int32) (v1 : FV) (v2 : FV) (G : (Nat → FV)) (v3 : FV) (H : Heap) (locs : List Loc) (ls : Array Slot), f_X3_possibleIn_L33 n y1 y2 y3 v1 v2 G v3 = some (r, (v1', v2', G', v3')) → va_P D vwCl (NW cy aN v1 v2 G v3) H → va_D A (NW cy aN v1 v2 G v3) → va_S A s.heap H locs → lv_has ls 4 [(0, .ref (aN 0 0)), (1, .int y1), (2, .int y2), (3, .int y3)] → W p l e (RM 4 144) s m args below meth c H locs 0 0 Q (F0 m 33 ls []) := by
    intro n
    induction n with
    | zero =>
      intro y1 y2 y3 v1 v2 G v3 H locs ls hc
      cases hc
    | succ n ih =>
      intro y1 y2 y3 v1 v2 G v3 H locs ls hc hP hD hS hl
      refine lv_iload_n hx hb dX3_possibleIn_33 rfl (lv_at hl 3 rfl) ?_
      refine lv_sipush (v := 300) hx hb dX3_possibleIn_34 (by decide +kernel) ?_
      refine lv_icmp_gt (tgt := 69) hx hb dX3_possibleIn_37 (by decide) (fun c6 => ?_) (fun c6 => ?_)
      · replace hc := ite_t c6 hc
        refine lv_bipush (v := (-4)) hx hb dX3_possibleIn_69 (by decide +kernel) ?_
        exact hend H locs _ _ _ _ _ _ _ (some_fst hc) (some_snd hc) rfl hP hD hS dX3_possibleIn_71
      · replace hc := ite_f c6 hc
        refine lv_aload_n hx hb dX3_possibleIn_40 rfl (lv_at hl 0 rfl) ?_
        refine va_get (ci := 3) (v := .ref (aN 2 0)) (C := RX3) (T := TX3) (N := 4) hx hb hts inw_X3 hown hK.1 hP 0 rfl rfl 1 (by decide) fl_16 (fun _ h9 => h9) rfl dX3_possibleIn_41 ?_
        refine lv_iload_n hx hb dX3_possibleIn_44 rfl (lv_at hl 1 rfl) ?_
        refine lv_iload_n hx hb dX3_possibleIn_45 rfl (lv_at hl 2 rfl) ?_
        obtain ⟨x7, v27, hc7, hc⟩ := b2_some hc
        refine gc_VI (n := 2) (q0 := 0) (ci := 0) (w' := NW cy aN v1 v27 G v3) hx hb hml hown hts hK hP hD hS hA hl.1 ⟨Nat.le_refl _, Nat.le_refl _⟩ (C_X0_shareOut l D cy (aN 2) v2 y1 y2 x7 v27 hc7) gX3_possibleIn_X0_shareOut rfl (by decide +kernel) rfl ⟨by decide, by decide⟩ (Jn.perm NW_trial NW_trial) rfl rfl rfl (Nat.le_of_ble_eq_true rfl) dX3_possibleIn_46 (fun H locs hP hD hS => ?_)
        refine lv_iload_n hx hb dX3_possibleIn_49 rfl (lv_at hl 2 rfl) ?_
        refine lv_icmp_ne (tgt := 55) hx hb dX3_possibleIn_50 (by decide) (fun c8 => ?_) (fun c8 => ?_)
        · replace hc := ite_f c8 hc
          refine lv_aload_n hx hb dX3_possibleIn_55 rfl (lv_at hl 0 rfl) ?_
          refine va_get (ci := 3) (v := .ref (aN 2 0)) (C := RX3) (T := TX3) (N := 4) hx hb hts inw_X3 hown hK.1 hP 0 rfl rfl 1 (by decide) fl_16 (fun _ h9 => h9) rfl dX3_possibleIn_56 ?_
          obtain ⟨x9, v29, hc9, hc⟩ := b2_some hc
          refine gc_VI (n := 0) (q0 := 0) (ci := 0) (w' := NW cy aN v1 v29 G v3) hx hb hml hown hts hK hP hD hS hA hl.1 ⟨Nat.le_refl _, Nat.le_refl _⟩ (C_X0_passTick l D cy (aN 2) v27 x9 v29 hc9) gX3_possibleIn_X0_passTick rfl (by decide +kernel) rfl ⟨by decide, by decide⟩ (Jn.perm NW_trial NW_trial) rfl rfl rfl (Nat.le_of_ble_eq_true rfl) dX3_possibleIn_59 (fun H locs hP hD hS => ?_)
          refine lv_pop hx hb dX3_possibleIn_62 rfl ?_
          refine lv_iinc (v := y3 + 1) (lv' := [(3, .int (y3 + 1)), (0, .ref (aN 0 0)), (1, .int y1), (2, .int y2)]) hx hb dX3_possibleIn_63 hl (k := 3) rfl rfl (by decide) rfl (fun ls hl => ?_)
          refine lv_goto (tgt := 33) hx hb dX3_possibleIn_66 (by decide) ?_
          exact ih y1 y2 (y3 + 1) v1 v29 G v3 H locs ls hc hP hD hS (lv_sub hl [1, 2, 3, 0] rfl)
        · replace hc := ite_t c8 hc
          refine lv_iload_n hx hb dX3_possibleIn_53 rfl (lv_at hl 3 rfl) ?_
          exact hend H locs _ _ _ _ _ _ _ (some_fst hc) (some_snd hc) rfl hP hD hS dX3_possibleIn_54
  obtain ⟨H, hHe⟩ : ∃ H : Heap, H = s.heap := ⟨_, rfl⟩
  obtain ⟨locs, hLe⟩ : ∃ x : List Loc, x = [] := ⟨_, rfl⟩
  have hP : va_P D vwCl (NW cy aN v1 v2 G v3) H := by rw [hHe]; exact hP
  have hS : va_S A s.heap H locs := by rw [hHe, hLe]; exact hS
  have goal0 : W p l e (RM 4 144) s m args below meth c H locs 0 0 Q (F0 m 0 ls []) := by
    refine lv_aload_n hx hb dX3_possibleIn_0 rfl (lv_at hl 0 rfl) ?_
    refine va_get (ci := 3) (v := .ref (aN 1 0)) (C := RX3) (T := TX3) (N := 4) hx hb hts inw_X3 hown hK.1 hP 0 rfl rfl 0 (by decide) fl_12 (fun _ h9 => h9) rfl dX3_possibleIn_1 ?_
    refine lv_iload_n hx hb dX3_possibleIn_4 rfl (lv_at hl 1 rfl) ?_
    obtain ⟨x1, hc1, hc⟩ := b1_some hc
    refine gc_VI (n := 1) (q0 := 0) (ci := 0) (w' := NW cy aN v1 v2 G v3) hx hb hml hown hts hK hP hD hS hA hl.1 ⟨Nat.le_refl _, Nat.le_refl _⟩ (C_X0_isWell l D cy (aN 1) v1 p1 x1 hc1) gX3_possibleIn_X0_isWell rfl (by decide +kernel) rfl ⟨by decide, by decide⟩ (Jn.perm NW_now NW_now) rfl rfl rfl (Nat.le_of_ble_eq_true rfl) dX3_possibleIn_5 (fun H locs hP hD hS => ?_)
    refine lv_if_eq (tgt := 18) hx hb dX3_possibleIn_8 (by decide) (fun c2 => ?_) (fun c2 => ?_)
    · replace hc := ite_t c2 hc
      refine lv_iconst (v := (-1)) hx hb dX3_possibleIn_18 (by decide) ?_
      exact hend H locs _ _ _ _ _ _ _ (some_fst hc) (some_snd hc) rfl hP hD hS dX3_possibleIn_19
    · replace hc := ite_f c2 hc
      refine lv_iload_n hx hb dX3_possibleIn_11 rfl (lv_at hl 2 rfl) ?_
      obtain ⟨x3, hc3, hc⟩ := b1_some hc
      refine gc_SI (n := 1) (w' := NW cy aN v1 v2 G v3) hx hb hml hown hts hK hP hD hS hA hl.1 ⟨Nat.le_refl _, Nat.le_refl _⟩ (C_X3_areBuckets l D cy p2 x3 hc3) gX3_possibleIn_X3_areBuckets rfl (by decide +kernel) rfl ⟨by decide, by decide⟩ Jn.none rfl (Nat.le_of_ble_eq_true rfl) dX3_possibleIn_12 (fun H locs hP hD hS => ?_)
      refine lv_if_ne (tgt := 20) hx hb dX3_possibleIn_15 (by decide) (fun c4 => ?_) (fun c4 => ?_)
      · replace hc := ite_f c4 hc
        refine lv_aload_n hx hb dX3_possibleIn_20 rfl (lv_at hl 0 rfl) ?_
        refine va_get (ci := 3) (v := .ref (aN 2 0)) (C := RX3) (T := TX3) (N := 4) hx hb hts inw_X3 hown hK.1 hP 0 rfl rfl 1 (by decide) fl_16 (fun _ h9 => h9) rfl dX3_possibleIn_21 ?_
        refine lv_aload_n hx hb dX3_possibleIn_24 rfl (lv_at hl 0 rfl) ?_
        refine va_get (ci := 3) (v := .ref (aN 1 0)) (C := RX3) (T := TX3) (N := 4) hx hb hts inw_X3 hown hK.1 hP 0 rfl rfl 0 (by decide) fl_12 (fun _ h9 => h9) rfl dX3_possibleIn_25 ?_
        obtain ⟨v25, hc5, hc⟩ := b1_some hc
        refine gc_VV (n := 1) (q0 := 0) (ci := 0) (w' := NW cy aN v1 v25 G v3) hx hb hml hown hts hK hP hD hS hA hl.1 ⟨Nat.le_refl _, Nat.le_refl _⟩ (C_X0_copyFrom l D cy (aN 2) (aN 1) v1 v2 v25 hc5) gX3_possibleIn_X0_copyFrom rfl (by decide +kernel) rfl ⟨by decide, by decide⟩ (Jn.perm NW_tn NW_tn) rfl rfl rfl (Nat.le_of_ble_eq_true rfl) dX3_possibleIn_28 (fun H locs hP hD hS => ?_)
        refine lv_iconst (v := 0) hx hb dX3_possibleIn_31 (by decide) ?_
        refine lv_istore_n (lv' := [(3, .int 0), (0, .ref (aN 0 0)), (1, .int p1), (2, .int p2)]) hx hb dX3_possibleIn_32 rfl hl (by decide) rfl (fun ls hl => ?_)
        exact L33 FUEL p1 p2 0 v1 v25 G v3 H locs ls hc hP hD hS (lv_sub hl [1, 2, 3, 0] rfl)
      · replace hc := ite_t c4 hc
        refine lv_iconst (v := (-1)) hx hb dX3_possibleIn_18 (by decide) ?_
        exact hend H locs _ _ _ _ _ _ _ (some_fst hc) (some_snd hc) rfl hP hD hS dX3_possibleIn_19
  rw [hHe, hLe] at goal0
  exact goal0
set_option maxHeartbeats 4000000 in
set_option maxRecDepth 100000 in
theorem C_X3_waterIn (l : Launch) (D : va_G) (cy : Nat → ClassId) (aN : Nat → Nat → Nat) (v1 : FV) (v2 : FV) (G : (Nat → FV)) (v3 : FV) (p1 : Int32) (p2 : Int32) (r : Int32) (v1' : FV) (v2' : FV) (G' : (Nat → FV)) (v3' : FV) (hc : f_X3_waterIn v1 v2 G v3 p1 p2 = some (r, (v1', v2', G', v3'))) : ConI l yX3_waterIn wsX3_waterIn 4 144 D cy (fun (u : FV × FV × (Nat → FV) × FV) => NW cy aN u.1 u.2.1 u.2.2.1 u.2.2.2) [.ref (aN 0 0), .int p1, .int p2] ((v1, v2, G, v3)) ((v1', v2', G', v3')) r := by
  refine bodyI (cc := cX3_waterIn) (maxL := 4) (ty := .int) (by decide +kernel) rfl (Nat.le_of_ble_eq_true rfl) ?_
  intro p e s m args below meth c A Q hx hb hml hts hown hK hP hD hA hS hend ls hl
  have hown : s.vm.findClass RX3 = some m.cls := hown
  have hP : va_P D vwCl (NW cy aN v1 v2 G v3) s.heap := hP
  have hD : va_D A (NW cy aN v1 v2 G v3) := hD
  have hl : lv_has ls 4 [(0, .ref (aN 0 0)), (1, .int p1), (2, .int p2)] := hl
  have hend : ∀ (H : Heap) (locs : List Loc) (pc : Nat) (ls : Array Slot) (v : Int32) (v1 : FV) (v2 : FV) (G : (Nat → FV)) (v3 : FV), v = r → (v1, v2, G, v3) = (v1', v2', G', v3') → narrow .int (.int v) = .int v → va_P D vwCl (NW cy aN v1 v2 G v3) H → va_D A (NW cy aN v1 v2 G v3) → va_S A s.heap H locs → decode cX3_waterIn pc = .ok (.ireturn, 1) → W p l e (RM 4 144) s m args below meth c H locs 0 0 Q (F0 m pc ls [.int v]) := fun H locs pc ls v v1 v2 G v3 h1 h2 h3 h4 h5 h6 h7 => hend H locs pc ls v ((v1, v2, G, v3)) h1 h2 h3 h4 h5 h6 h7
  have fl_12 := hts (.fieldLink RX3 12 "NoonWells" "now" "LNoonWells$Field;") (by decide +kernel)
  have inw_X3 := (by decide +kernel : ∀ w ∈ u_ws RX3 TX3 4, w ∈ wsX3_waterIn)
  have fl_16 := hts (.fieldLink RX3 16 "NoonWells" "trial" "LNoonWells$Field;") (by decide +kernel)
  have inw_X0 := (by decide +kernel : ∀ w ∈ u_ws RX0 TX0 10, w ∈ wsX3_waterIn)
  have L37 : ∀ (n : Nat), ∀ (y1 y2 y3 : Int32) (v1 : FV) (v2 : FV) (G : (Nat → FV)) (v3 : FV) (H : Heap) (locs : List Loc) (ls : Array Slot), f_X3_waterIn_L37 n y1 y2 y3 v1 v2 G v3 = some (r, (v1', v2', G', v3')) → va_P D vwCl (NW cy aN v1 v2 G v3) H → va_D A (NW cy aN v1 v2 G v3) → va_S A s.heap H locs → lv_has ls 4 [(0, .ref (aN 0 0)), (1, .int y1), (2, .int y2), (3, .int y3)] → W p l e (RM 4 144) s m args below meth c H locs 0 0 Q (F0 m 37 ls []) := by
    intro n
    induction n with
    | zero =>
      intro y1 y2 y3 v1 v2 G v3 H locs ls hc
      cases hc
    | succ n ih =>
      intro y1 y2 y3 v1 v2 G v3 H locs ls hc hP hD hS hl
      refine lv_iload_n hx hb dX3_waterIn_37 rfl (lv_at hl 3 rfl) ?_
      refine lv_iload_n hx hb dX3_waterIn_38 rfl (lv_at hl 2 rfl) ?_
      refine lv_icmp_ge (tgt := 56) hx hb dX3_waterIn_39 (by decide) (fun c6 => ?_) (fun c6 => ?_)
      · replace hc := ite_t c6 hc
        refine lv_aload_n hx hb dX3_waterIn_56 rfl (lv_at hl 0 rfl) ?_
        refine va_get (ci := 3) (v := .ref (aN 2 0)) (C := RX3) (T := TX3) (N := 4) hx hb hts inw_X3 hown hK.1 hP 0 rfl rfl 1 (by decide) fl_16 (fun _ h9 => h9) rfl dX3_waterIn_57 ?_
        refine va_getN (ci := 0) (v := .ref (aN 2 1)) (C := RX0) (T := TX0) (N := 10) hx hb hts inw_X0 hown hK.1 hP 26 rfl rfl 0 (by decide) (va_Nw.use rfl (hK.2 (.fieldLinkNest "NoonWells" 68 "NoonWells$Field" "wells" "[[I" "NoonWells") (by decide +kernel))) (fun _ h9 => h9) rfl dX3_waterIn_60 ?_
        refine lv_iconst (v := 4) hx hb dX3_waterIn_63 (by decide) ?_
        refine g_aald (v := aN 2 10) hx hb hK hP 27 rfl (vp_lit (by decide)) rfl dX3_waterIn_64 ?_
        refine lv_iload_n hx hb dX3_waterIn_65 rfl (lv_at hl 1 rfl) ?_
        obtain ⟨x7, hi7, hv7, hc⟩ := rd_some hc
        refine g_iald (x := x7) hx hb hK hP 36 rfl hi7 hv7 dX3_waterIn_66 ?_
        exact hend H locs _ _ _ _ _ _ _ (some_fst hc) (some_snd hc) rfl hP hD hS dX3_waterIn_67
      · replace hc := ite_f c6 hc
        refine lv_aload_n hx hb dX3_waterIn_42 rfl (lv_at hl 0 rfl) ?_
        refine va_get (ci := 3) (v := .ref (aN 2 0)) (C := RX3) (T := TX3) (N := 4) hx hb hts inw_X3 hown hK.1 hP 0 rfl rfl 1 (by decide) fl_16 (fun _ h9 => h9) rfl dX3_waterIn_43 ?_
        obtain ⟨x8, v28, hc8, hc⟩ := b2_some hc
        refine gc_VI (n := 0) (q0 := 0) (ci := 0) (w' := NW cy aN v1 v28 G v3) hx hb hml hown hts hK hP hD hS hA hl.1 ⟨Nat.le_refl _, Nat.le_refl _⟩ (C_X0_passTick l D cy (aN 2) v2 x8 v28 hc8) gX3_waterIn_X0_passTick rfl (by decide +kernel) rfl ⟨by decide, by decide⟩ (Jn.perm NW_trial NW_trial) rfl rfl rfl (Nat.le_of_ble_eq_true rfl) dX3_waterIn_46 (fun H locs hP hD hS => ?_)
        refine lv_pop hx hb dX3_waterIn_49 rfl ?_
        refine lv_iinc (v := y3 + 1) (lv' := [(3, .int (y3 + 1)), (0, .ref (aN 0 0)), (1, .int y1), (2, .int y2)]) hx hb dX3_waterIn_50 hl (k := 3) rfl rfl (by decide) rfl (fun ls hl => ?_)
        refine lv_goto (tgt := 37) hx hb dX3_waterIn_53 (by decide) ?_
        exact ih y1 y2 (y3 + 1) v1 v28 G v3 H locs ls hc hP hD hS (lv_sub hl [1, 2, 3, 0] rfl)
  obtain ⟨H, hHe⟩ : ∃ H : Heap, H = s.heap := ⟨_, rfl⟩
  obtain ⟨locs, hLe⟩ : ∃ x : List Loc, x = [] := ⟨_, rfl⟩
  have hP : va_P D vwCl (NW cy aN v1 v2 G v3) H := by rw [hHe]; exact hP
  have hS : va_S A s.heap H locs := by rw [hHe, hLe]; exact hS
  have goal0 : W p l e (RM 4 144) s m args below meth c H locs 0 0 Q (F0 m 0 ls []) := by
    refine lv_aload_n hx hb dX3_waterIn_0 rfl (lv_at hl 0 rfl) ?_
    refine va_get (ci := 3) (v := .ref (aN 1 0)) (C := RX3) (T := TX3) (N := 4) hx hb hts inw_X3 hown hK.1 hP 0 rfl rfl 0 (by decide) fl_12 (fun _ h9 => h9) rfl dX3_waterIn_1 ?_
    refine lv_iload_n hx hb dX3_waterIn_4 rfl (lv_at hl 1 rfl) ?_
    obtain ⟨x1, hc1, hc⟩ := b1_some hc
    refine gc_VI (n := 1) (q0 := 0) (ci := 0) (w' := NW cy aN v1 v2 G v3) hx hb hml hown hts hK hP hD hS hA hl.1 ⟨Nat.le_refl _, Nat.le_refl _⟩ (C_X0_isWell l D cy (aN 1) v1 p1 x1 hc1) gX3_waterIn_X0_isWell rfl (by decide +kernel) rfl ⟨by decide, by decide⟩ (Jn.perm NW_now NW_now) rfl rfl rfl (Nat.le_of_ble_eq_true rfl) dX3_waterIn_5 (fun H locs hP hD hS => ?_)
    refine lv_if_eq (tgt := 22) hx hb dX3_waterIn_8 (by decide) (fun c2 => ?_) (fun c2 => ?_)
    · replace hc := ite_t c2 hc
      refine lv_iconst (v := (-1)) hx hb dX3_waterIn_22 (by decide) ?_
      exact hend H locs _ _ _ _ _ _ _ (some_fst hc) (some_snd hc) rfl hP hD hS dX3_waterIn_23
    · replace hc := ite_f c2 hc
      refine lv_iload_n hx hb dX3_waterIn_11 rfl (lv_at hl 2 rfl) ?_
      refine lv_if_lt (tgt := 22) hx hb dX3_waterIn_12 (by decide) (fun c3 => ?_) (fun c3 => ?_)
      · replace hc := ite_t c3 hc
        refine lv_iconst (v := (-1)) hx hb dX3_waterIn_22 (by decide) ?_
        exact hend H locs _ _ _ _ _ _ _ (some_fst hc) (some_snd hc) rfl hP hD hS dX3_waterIn_23
      · replace hc := ite_f c3 hc
        refine lv_iload_n hx hb dX3_waterIn_15 rfl (lv_at hl 2 rfl) ?_
        refine lv_sipush (v := 300) hx hb dX3_waterIn_16 (by decide +kernel) ?_
        refine lv_icmp_le (tgt := 24) hx hb dX3_waterIn_19 (by decide) (fun c4 => ?_) (fun c4 => ?_)
        · replace hc := ite_t c4 hc
          refine lv_aload_n hx hb dX3_waterIn_24 rfl (lv_at hl 0 rfl) ?_
          refine va_get (ci := 3) (v := .ref (aN 2 0)) (C := RX3) (T := TX3) (N := 4) hx hb hts inw_X3 hown hK.1 hP 0 rfl rfl 1 (by decide) fl_16 (fun _ h9 => h9) rfl dX3_waterIn_25 ?_
          refine lv_aload_n hx hb dX3_waterIn_28 rfl (lv_at hl 0 rfl) ?_
          refine va_get (ci := 3) (v := .ref (aN 1 0)) (C := RX3) (T := TX3) (N := 4) hx hb hts inw_X3 hown hK.1 hP 0 rfl rfl 0 (by decide) fl_12 (fun _ h9 => h9) rfl dX3_waterIn_29 ?_
          obtain ⟨v25, hc5, hc⟩ := b1_some hc
          refine gc_VV (n := 1) (q0 := 0) (ci := 0) (w' := NW cy aN v1 v25 G v3) hx hb hml hown hts hK hP hD hS hA hl.1 ⟨Nat.le_refl _, Nat.le_refl _⟩ (C_X0_copyFrom l D cy (aN 2) (aN 1) v1 v2 v25 hc5) gX3_waterIn_X0_copyFrom rfl (by decide +kernel) rfl ⟨by decide, by decide⟩ (Jn.perm NW_tn NW_tn) rfl rfl rfl (Nat.le_of_ble_eq_true rfl) dX3_waterIn_32 (fun H locs hP hD hS => ?_)
          refine lv_iconst (v := 0) hx hb dX3_waterIn_35 (by decide) ?_
          refine lv_istore_n (lv' := [(3, .int 0), (0, .ref (aN 0 0)), (1, .int p1), (2, .int p2)]) hx hb dX3_waterIn_36 rfl hl (by decide) rfl (fun ls hl => ?_)
          exact L37 FUEL p1 p2 0 v1 v25 G v3 H locs ls hc hP hD hS (lv_sub hl [1, 2, 3, 0] rfl)
        · replace hc := ite_f c4 hc
          refine lv_iconst (v := (-1)) hx hb dX3_waterIn_22 (by decide) ?_
          exact hend H locs _ _ _ _ _ _ _ (some_fst hc) (some_snd hc) rfl hP hD hS dX3_waterIn_23
  rw [hHe, hLe] at goal0
  exact goal0
set_option maxHeartbeats 4000000 in
set_option maxRecDepth 100000 in
theorem C_X3_lenders (l : Launch) (D : va_G) (cy : Nat → ClassId) (aN : Nat → Nat → Nat) (v1 : FV) (v2 : FV) (G : (Nat → FV)) (v3 : FV) (r : Int32) (v1' : FV) (v2' : FV) (G' : (Nat → FV)) (v3' : FV) (hc : f_X3_lenders v1 v2 G v3 = some (r, (v1', v2', G', v3'))) : ConI l yX3_lenders wsX3_lenders 3 144 D cy (fun (u : FV × FV × (Nat → FV) × FV) => NW cy aN u.1 u.2.1 u.2.2.1 u.2.2.2) [.ref (aN 0 0)] ((v1, v2, G, v3)) ((v1', v2', G', v3')) r := by
  refine bodyI (cc := cX3_lenders) (maxL := 1) (ty := .int) (by decide +kernel) rfl (Nat.le_of_ble_eq_true rfl) ?_
  intro p e s m args below meth c A Q hx hb hml hts hown hK hP hD hA hS hend ls hl
  have hown : s.vm.findClass RX3 = some m.cls := hown
  have hP : va_P D vwCl (NW cy aN v1 v2 G v3) s.heap := hP
  have hD : va_D A (NW cy aN v1 v2 G v3) := hD
  have hl : lv_has ls 1 [(0, .ref (aN 0 0))] := hl
  have hend : ∀ (H : Heap) (locs : List Loc) (pc : Nat) (ls : Array Slot) (v : Int32) (v1 : FV) (v2 : FV) (G : (Nat → FV)) (v3 : FV), v = r → (v1, v2, G, v3) = (v1', v2', G', v3') → narrow .int (.int v) = .int v → va_P D vwCl (NW cy aN v1 v2 G v3) H → va_D A (NW cy aN v1 v2 G v3) → va_S A s.heap H locs → decode cX3_lenders pc = .ok (.ireturn, 1) → W p l e (RM 3 144) s m args below meth c H locs 0 0 Q (F0 m pc ls [.int v]) := fun H locs pc ls v v1 v2 G v3 h1 h2 h3 h4 h5 h6 h7 => hend H locs pc ls v ((v1, v2, G, v3)) h1 h2 h3 h4 h5 h6 h7
  have fl_16 := hts (.fieldLink RX3 16 "NoonWells" "trial" "LNoonWells$Field;") (by decide +kernel)
  have inw_X3 := (by decide +kernel : ∀ w ∈ u_ws RX3 TX3 4, w ∈ wsX3_lenders)
  have fl_12 := hts (.fieldLink RX3 12 "NoonWells" "now" "LNoonWells$Field;") (by decide +kernel)
  obtain ⟨H, hHe⟩ : ∃ H : Heap, H = s.heap := ⟨_, rfl⟩
  obtain ⟨locs, hLe⟩ : ∃ x : List Loc, x = [] := ⟨_, rfl⟩
  have hP : va_P D vwCl (NW cy aN v1 v2 G v3) H := by rw [hHe]; exact hP
  have hS : va_S A s.heap H locs := by rw [hHe, hLe]; exact hS
  have goal0 : W p l e (RM 3 144) s m args below meth c H locs 0 0 Q (F0 m 0 ls []) := by
    refine lv_aload_n hx hb dX3_lenders_0 rfl (lv_at hl 0 rfl) ?_
    refine va_get (ci := 3) (v := .ref (aN 2 0)) (C := RX3) (T := TX3) (N := 4) hx hb hts inw_X3 hown hK.1 hP 0 rfl rfl 1 (by decide) fl_16 (fun _ h9 => h9) rfl dX3_lenders_1 ?_
    refine lv_aload_n hx hb dX3_lenders_4 rfl (lv_at hl 0 rfl) ?_
    refine va_get (ci := 3) (v := .ref (aN 1 0)) (C := RX3) (T := TX3) (N := 4) hx hb hts inw_X3 hown hK.1 hP 0 rfl rfl 0 (by decide) fl_12 (fun _ h9 => h9) rfl dX3_lenders_5 ?_
    obtain ⟨v21, hc1, hc⟩ := b1_some hc
    refine gc_VV (n := 1) (q0 := 0) (ci := 0) (w' := NW cy aN v1 v21 G v3) hx hb hml hown hts hK hP hD hS hA hl.1 ⟨Nat.le_refl _, Nat.le_refl _⟩ (C_X0_copyFrom l D cy (aN 2) (aN 1) v1 v2 v21 hc1) gX3_lenders_X0_copyFrom rfl (by decide +kernel) rfl ⟨by decide, by decide⟩ (Jn.perm NW_tn NW_tn) rfl rfl rfl (Nat.le_of_ble_eq_true rfl) dX3_lenders_8 (fun H locs hP hD hS => ?_)
    refine lv_aload_n hx hb dX3_lenders_11 rfl (lv_at hl 0 rfl) ?_
    refine va_get (ci := 3) (v := .ref (aN 2 0)) (C := RX3) (T := TX3) (N := 4) hx hb hts inw_X3 hown hK.1 hP 0 rfl rfl 1 (by decide) fl_16 (fun _ h9 => h9) rfl dX3_lenders_12 ?_
    obtain ⟨x2, v22, hc2, hc⟩ := b2_some hc
    refine gc_VI (n := 0) (q0 := 0) (ci := 0) (w' := NW cy aN v1 v22 G v3) hx hb hml hown hts hK hP hD hS hA hl.1 ⟨Nat.le_refl _, Nat.le_refl _⟩ (C_X0_lendAtNoon l D cy (aN 2) v21 x2 v22 hc2) gX3_lenders_X0_lendAtNoon rfl (by decide +kernel) rfl ⟨by decide, by decide⟩ (Jn.perm NW_trial NW_trial) rfl rfl rfl (Nat.le_of_ble_eq_true rfl) dX3_lenders_15 (fun H locs hP hD hS => ?_)
    exact hend H locs _ _ _ _ _ _ _ (some_fst hc) (some_snd hc) rfl hP hD hS dX3_lenders_18
  rw [hHe, hLe] at goal0
  exact goal0
set_option maxHeartbeats 4000000 in
set_option maxRecDepth 100000 in
theorem C_X3_undo (l : Launch) (D : va_G) (cy : Nat → ClassId) (aN : Nat → Nat → Nat) (v1 : FV) (v2 : FV) (G : (Nat → FV)) (v3 : FV) (r : Int32) (v1' : FV) (v2' : FV) (G' : (Nat → FV)) (v3' : FV) (hc : f_X3_undo v1 v2 G v3 = some (r, (v1', v2', G', v3'))) : ConI l yX3_undo wsX3_undo 4 165 D cy (fun (u : FV × FV × (Nat → FV) × FV) => NW cy aN u.1 u.2.1 u.2.2.1 u.2.2.2) [.ref (aN 0 0)] ((v1, v2, G, v3)) ((v1', v2', G', v3')) r := by
  refine bodyI (cc := cX3_undo) (maxL := 1) (ty := .int) (by decide +kernel) rfl (Nat.le_of_ble_eq_true rfl) ?_
  intro p e s m args below meth c A Q hx hb hml hts hown hK hP hD hA hS hend ls hl
  have hown : s.vm.findClass RX3 = some m.cls := hown
  have hP : va_P D vwCl (NW cy aN v1 v2 G v3) s.heap := hP
  have hD : va_D A (NW cy aN v1 v2 G v3) := hD
  have hl : lv_has ls 1 [(0, .ref (aN 0 0))] := hl
  have hend : ∀ (H : Heap) (locs : List Loc) (pc : Nat) (ls : Array Slot) (v : Int32) (v1 : FV) (v2 : FV) (G : (Nat → FV)) (v3 : FV), v = r → (v1, v2, G, v3) = (v1', v2', G', v3') → narrow .int (.int v) = .int v → va_P D vwCl (NW cy aN v1 v2 G v3) H → va_D A (NW cy aN v1 v2 G v3) → va_S A s.heap H locs → decode cX3_undo pc = .ok (.ireturn, 1) → W p l e (RM 4 165) s m args below meth c H locs 0 0 Q (F0 m pc ls [.int v]) := fun H locs pc ls v v1 v2 G v3 h1 h2 h3 h4 h5 h6 h7 => hend H locs pc ls v ((v1, v2, G, v3)) h1 h2 h3 h4 h5 h6 h7
  have fl_22 := hts (.fieldLink RX3 22 "NoonWells" "history" "LNoonWells$History;") (by decide +kernel)
  have inw_X3 := (by decide +kernel : ∀ w ∈ u_ws RX3 TX3 4, w ∈ wsX3_undo)
  have inw_X1 := (by decide +kernel : ∀ w ∈ u_ws RX1 TX1 3, w ∈ wsX3_undo)
  have fl_12 := hts (.fieldLink RX3 12 "NoonWells" "now" "LNoonWells$Field;") (by decide +kernel)
  obtain ⟨H, hHe⟩ : ∃ H : Heap, H = s.heap := ⟨_, rfl⟩
  obtain ⟨locs, hLe⟩ : ∃ x : List Loc, x = [] := ⟨_, rfl⟩
  have hP : va_P D vwCl (NW cy aN v1 v2 G v3) H := by rw [hHe]; exact hP
  have hS : va_S A s.heap H locs := by rw [hHe, hLe]; exact hS
  have goal0 : W p l e (RM 4 165) s m args below meth c H locs 0 0 Q (F0 m 0 ls []) := by
    refine lv_aload_n hx hb dX3_undo_0 rfl (lv_at hl 0 rfl) ?_
    refine va_get (ci := 3) (v := .ref (aN 4 0)) (C := RX3) (T := TX3) (N := 4) hx hb hts inw_X3 hown hK.1 hP 0 rfl rfl 2 (by decide) fl_22 (fun _ h9 => h9) rfl dX3_undo_1 ?_
    refine va_getN (ci := 1) (v := .int (G 0 0 1)) (C := RX1) (T := TX1) (N := 3) hx hb hts inw_X1 hown hK.1 hP 54 rfl rfl 2 (by decide) (va_Nw.use rfl (hK.2 (.fieldLinkNest "NoonWells" 134 "NoonWells$History" "size" "I" "NoonWells") (by decide +kernel))) (fun _ h9 => h9) rfl dX3_undo_4 ?_
    refine lv_if_ne (tgt := 13) hx hb dX3_undo_7 (by decide) (fun c1 => ?_) (fun c1 => ?_)
    · replace hc := ite_f c1 hc
      refine lv_aload_n hx hb dX3_undo_13 rfl (lv_at hl 0 rfl) ?_
      refine va_get (ci := 3) (v := .ref (aN 4 0)) (C := RX3) (T := TX3) (N := 4) hx hb hts inw_X3 hown hK.1 hP 0 rfl rfl 2 (by decide) fl_22 (fun _ h9 => h9) rfl dX3_undo_14 ?_
      refine lv_aload_n hx hb dX3_undo_17 rfl (lv_at hl 0 rfl) ?_
      refine va_get (ci := 3) (v := .ref (aN 1 0)) (C := RX3) (T := TX3) (N := 4) hx hb hts inw_X3 hown hK.1 hP 0 rfl rfl 0 (by decide) fl_12 (fun _ h9 => h9) rfl dX3_undo_18 ?_
      obtain ⟨t2, hc2, hc⟩ := b1_some hc
      refine gc_VV (n := 1) (q0 := 0) (ci := 1) (w' := NW cy aN t2.2 v2 t2.1 v3) hx hb hml hown hts hK hP hD hS hA hl.1 ⟨Nat.le_refl _, Nat.le_refl _⟩ (C_X1_giveBack l D cy ((fun i => aN (4 + i))) (aN 1) G v1 t2.1 t2.2 hc2) gX3_undo_X1_giveBack rfl (by decide +kernel) rfl ⟨by decide, by decide⟩ (Jn.perm NW_hn NW_hn) rfl rfl rfl (Nat.le_of_ble_eq_true rfl) dX3_undo_21 (fun H locs hP hD hS => ?_)
      refine lv_aload_n hx hb dX3_undo_24 rfl (lv_at hl 0 rfl) ?_
      refine va_get (ci := 3) (v := .ref (aN 4 0)) (C := RX3) (T := TX3) (N := 4) hx hb hts inw_X3 hown hK.1 hP 0 rfl rfl 2 (by decide) fl_22 (fun _ h9 => h9) rfl dX3_undo_25 ?_
      refine va_getN (ci := 1) (v := .int (t2.1 0 0 1)) (C := RX1) (T := TX1) (N := 3) hx hb hts inw_X1 hown hK.1 hP 54 rfl rfl 2 (by decide) (va_Nw.use rfl (hK.2 (.fieldLinkNest "NoonWells" 134 "NoonWells$History" "size" "I" "NoonWells") (by decide +kernel))) (fun _ h9 => h9) rfl dX3_undo_28 ?_
      exact hend H locs _ _ _ _ _ _ _ (some_fst hc) (some_snd hc) rfl hP hD hS dX3_undo_31
    · replace hc := ite_t c1 hc
      refine lv_bipush (v := (-2)) hx hb dX3_undo_10 (by decide +kernel) ?_
      exact hend H locs _ _ _ _ _ _ _ (some_fst hc) (some_snd hc) rfl hP hD hS dX3_undo_12
  rw [hHe, hLe] at goal0
  exact goal0
set_option maxHeartbeats 4000000 in
set_option maxRecDepth 100000 in
theorem C_X3_type (l : Launch) (D : va_G) (cy : Nat → ClassId) (aN : Nat → Nat → Nat) (v1 : FV) (v2 : FV) (G : (Nat → FV)) (v3 : FV) (p1 : Int32) (r : Int32) (v1' : FV) (v2' : FV) (G' : (Nat → FV)) (v3' : FV) (hc : f_X3_type v1 v2 G v3 p1 = some (r, (v1', v2', G', v3'))) : ConI l yX3_type wsX3_type 1 21 D cy (fun (u : FV × FV × (Nat → FV) × FV) => NW cy aN u.1 u.2.1 u.2.2.1 u.2.2.2) [.ref (aN 0 0), .int p1] ((v1, v2, G, v3)) ((v1', v2', G', v3')) r := by
  refine bodyI (cc := cX3_type) (maxL := 2) (ty := .int) (by decide +kernel) rfl (Nat.le_of_ble_eq_true rfl) ?_
  intro p e s m args below meth c A Q hx hb hml hts hown hK hP hD hA hS hend ls hl
  have hown : s.vm.findClass RX3 = some m.cls := hown
  have hP : va_P D vwCl (NW cy aN v1 v2 G v3) s.heap := hP
  have hD : va_D A (NW cy aN v1 v2 G v3) := hD
  have hl : lv_has ls 2 [(0, .ref (aN 0 0)), (1, .int p1)] := hl
  have hend : ∀ (H : Heap) (locs : List Loc) (pc : Nat) (ls : Array Slot) (v : Int32) (v1 : FV) (v2 : FV) (G : (Nat → FV)) (v3 : FV), v = r → (v1, v2, G, v3) = (v1', v2', G', v3') → narrow .int (.int v) = .int v → va_P D vwCl (NW cy aN v1 v2 G v3) H → va_D A (NW cy aN v1 v2 G v3) → va_S A s.heap H locs → decode cX3_type pc = .ok (.ireturn, 1) → W p l e (RM 1 21) s m args below meth c H locs 0 0 Q (F0 m pc ls [.int v]) := fun H locs pc ls v v1 v2 G v3 h1 h2 h3 h4 h5 h6 h7 => hend H locs pc ls v ((v1, v2, G, v3)) h1 h2 h3 h4 h5 h6 h7
  have fl_29 := hts (.fieldLink RX3 29 "NoonWells" "script" "LNoonWells$Script;") (by decide +kernel)
  have inw_X3 := (by decide +kernel : ∀ w ∈ u_ws RX3 TX3 4, w ∈ wsX3_type)
  have inw_X2 := (by decide +kernel : ∀ w ∈ u_ws RX2 TX2 7, w ∈ wsX3_type)
  obtain ⟨H, hHe⟩ : ∃ H : Heap, H = s.heap := ⟨_, rfl⟩
  obtain ⟨locs, hLe⟩ : ∃ x : List Loc, x = [] := ⟨_, rfl⟩
  have hP : va_P D vwCl (NW cy aN v1 v2 G v3) H := by rw [hHe]; exact hP
  have hS : va_S A s.heap H locs := by rw [hHe, hLe]; exact hS
  have goal0 : W p l e (RM 1 21) s m args below meth c H locs 0 0 Q (F0 m 0 ls []) := by
    refine lv_iload_n hx hb dX3_type_0 rfl (lv_at hl 1 rfl) ?_
    refine lv_bipush (v := 32) hx hb dX3_type_1 (by decide +kernel) ?_
    refine lv_icmp_lt (tgt := 12) hx hb dX3_type_3 (by decide) (fun c1 => ?_) (fun c1 => ?_)
    · replace hc := ite_t c1 hc
      refine lv_iconst (v := (-1)) hx hb dX3_type_12 (by decide) ?_
      exact hend H locs _ _ _ _ _ _ _ (some_fst hc) (some_snd hc) rfl hP hD hS dX3_type_13
    · replace hc := ite_f c1 hc
      refine lv_iload_n hx hb dX3_type_6 rfl (lv_at hl 1 rfl) ?_
      refine lv_bipush (v := 126) hx hb dX3_type_7 (by decide +kernel) ?_
      refine lv_icmp_le (tgt := 14) hx hb dX3_type_9 (by decide) (fun c2 => ?_) (fun c2 => ?_)
      · replace hc := ite_t c2 hc
        refine lv_aload_n hx hb dX3_type_14 rfl (lv_at hl 0 rfl) ?_
        refine va_get (ci := 3) (v := .ref (aN 3 0)) (C := RX3) (T := TX3) (N := 4) hx hb hts inw_X3 hown hK.1 hP 0 rfl rfl 3 (by decide) fl_29 (fun _ h9 => h9) rfl dX3_type_15 ?_
        refine lv_iload_n hx hb dX3_type_18 rfl (lv_at hl 1 rfl) ?_
        obtain ⟨x3, ex3, hc⟩ := lt1_some hc
        refine lv_i2c hx hb dX3_type_19 ex3 ?_
        obtain ⟨x4, v34, hc4, hc⟩ := b2_some hc
        refine gc_VI (n := 1) (q0 := 0) (ci := 2) (w' := NW cy aN v1 v2 G v34) hx hb hml hown hts hK hP hD hS hA hl.1 ⟨Nat.le_refl _, Nat.le_refl _⟩ (C_X2_append l D cy (aN 3) v3 x3 x4 v34 hc4) gX3_type_X2_append rfl (by decide +kernel) rfl ⟨by decide, by decide⟩ (Jn.perm NW_script NW_script) rfl rfl rfl (Nat.le_of_ble_eq_true rfl) dX3_type_20 (fun H locs hP hD hS => ?_)
        refine lv_if_eq (tgt := 36) hx hb dX3_type_23 (by decide) (fun c5 => ?_) (fun c5 => ?_)
        · replace hc := ite_t c5 hc
          refine lv_bipush (v := (-3)) hx hb dX3_type_36 (by decide +kernel) ?_
          exact hend H locs _ _ _ _ _ _ _ (some_fst hc) (some_snd hc) rfl hP hD hS dX3_type_38
        · replace hc := ite_f c5 hc
          refine lv_aload_n hx hb dX3_type_26 rfl (lv_at hl 0 rfl) ?_
          refine va_get (ci := 3) (v := .ref (aN 3 0)) (C := RX3) (T := TX3) (N := 4) hx hb hts inw_X3 hown hK.1 hP 0 rfl rfl 3 (by decide) fl_29 (fun _ h9 => h9) rfl dX3_type_27 ?_
          refine va_getN (ci := 2) (v := .int (v34 0 0)) (C := RX2) (T := TX2) (N := 7) hx hb hts inw_X2 hown hK.1 hP 51 rfl rfl 2 (by decide) (va_Nw.use rfl (hK.2 (.fieldLinkNest "NoonWells" 137 "NoonWells$Script" "length" "I" "NoonWells") (by decide +kernel))) (fun _ h9 => h9) rfl dX3_type_30 ?_
          refine lv_goto (tgt := 38) hx hb dX3_type_33 (by decide) ?_
          exact hend H locs _ _ _ _ _ _ _ (some_fst hc) (some_snd hc) rfl hP hD hS dX3_type_38
      · replace hc := ite_f c2 hc
        refine lv_iconst (v := (-1)) hx hb dX3_type_12 (by decide) ?_
        exact hend H locs _ _ _ _ _ _ _ (some_fst hc) (some_snd hc) rfl hP hD hS dX3_type_13
  rw [hHe, hLe] at goal0
  exact goal0
set_option maxHeartbeats 4000000 in
set_option maxRecDepth 100000 in
theorem C_X3_clearText (l : Launch) (D : va_G) (cy : Nat → ClassId) (aN : Nat → Nat → Nat) (v1 : FV) (v2 : FV) (G : (Nat → FV)) (v3 : FV) (r : Int32) (v1' : FV) (v2' : FV) (G' : (Nat → FV)) (v3' : FV) (hc : f_X3_clearText v1 v2 G v3 = some (r, (v1', v2', G', v3'))) : ConI l yX3_clearText wsX3_clearText 0 0 D cy (fun (u : FV × FV × (Nat → FV) × FV) => NW cy aN u.1 u.2.1 u.2.2.1 u.2.2.2) [.ref (aN 0 0)] ((v1, v2, G, v3)) ((v1', v2', G', v3')) r := by
  refine bodyI (cc := cX3_clearText) (maxL := 2) (ty := .int) (by decide +kernel) rfl (Nat.le_of_ble_eq_true rfl) ?_
  intro p e s m args below meth c A Q hx hb hml hts hown hK hP hD hA hS hend ls hl
  have hown : s.vm.findClass RX3 = some m.cls := hown
  have hP : va_P D vwCl (NW cy aN v1 v2 G v3) s.heap := hP
  have hD : va_D A (NW cy aN v1 v2 G v3) := hD
  have hl : lv_has ls 2 [(0, .ref (aN 0 0))] := hl
  have hend : ∀ (H : Heap) (locs : List Loc) (pc : Nat) (ls : Array Slot) (v : Int32) (v1 : FV) (v2 : FV) (G : (Nat → FV)) (v3 : FV), v = r → (v1, v2, G, v3) = (v1', v2', G', v3') → narrow .int (.int v) = .int v → va_P D vwCl (NW cy aN v1 v2 G v3) H → va_D A (NW cy aN v1 v2 G v3) → va_S A s.heap H locs → decode cX3_clearText pc = .ok (.ireturn, 1) → W p l e (RM 0 0) s m args below meth c H locs 0 0 Q (F0 m pc ls [.int v]) := fun H locs pc ls v v1 v2 G v3 h1 h2 h3 h4 h5 h6 h7 => hend H locs pc ls v ((v1, v2, G, v3)) h1 h2 h3 h4 h5 h6 h7
  have fl_29 := hts (.fieldLink RX3 29 "NoonWells" "script" "LNoonWells$Script;") (by decide +kernel)
  have inw_X3 := (by decide +kernel : ∀ w ∈ u_ws RX3 TX3 4, w ∈ wsX3_clearText)
  have inw_X2 := (by decide +kernel : ∀ w ∈ u_ws RX2 TX2 7, w ∈ wsX3_clearText)
  obtain ⟨H, hHe⟩ : ∃ H : Heap, H = s.heap := ⟨_, rfl⟩
  obtain ⟨locs, hLe⟩ : ∃ x : List Loc, x = [] := ⟨_, rfl⟩
  have hP : va_P D vwCl (NW cy aN v1 v2 G v3) H := by rw [hHe]; exact hP
  have hS : va_S A s.heap H locs := by rw [hHe, hLe]; exact hS
  have goal0 : W p l e (RM 0 0) s m args below meth c H locs 0 0 Q (F0 m 0 ls []) := by
    refine lv_aload_n hx hb dX3_clearText_0 rfl (lv_at hl 0 rfl) ?_
    refine va_get (ci := 3) (v := .ref (aN 3 0)) (C := RX3) (T := TX3) (N := 4) hx hb hts inw_X3 hown hK.1 hP 0 rfl rfl 3 (by decide) fl_29 (fun _ h9 => h9) rfl dX3_clearText_1 ?_
    refine va_getN (ci := 2) (v := .int (v3 0 0)) (C := RX2) (T := TX2) (N := 7) hx hb hts inw_X2 hown hK.1 hP 51 rfl rfl 2 (by decide) (va_Nw.use rfl (hK.2 (.fieldLinkNest "NoonWells" 137 "NoonWells$Script" "length" "I" "NoonWells") (by decide +kernel))) (fun _ h9 => h9) rfl dX3_clearText_4 ?_
    refine lv_istore_n (lv' := [(1, .int (v3 0 0)), (0, .ref (aN 0 0))]) hx hb dX3_clearText_7 rfl hl (by decide) rfl (fun ls hl => ?_)
    refine lv_aload_n hx hb dX3_clearText_8 rfl (lv_at hl 1 rfl) ?_
    refine va_get (ci := 3) (v := .ref (aN 3 0)) (C := RX3) (T := TX3) (N := 4) hx hb hts inw_X3 hown hK.1 hP 0 rfl rfl 3 (by decide) fl_29 (fun _ h9 => h9) rfl dX3_clearText_9 ?_
    refine lv_iconst (v := 0) hx hb dX3_clearText_12 (by decide) ?_
    obtain ⟨v31, ev31, hc⟩ := lt1_some hc
    refine g_putN (ci := 2) (C := RX2) (T := TX2) (N := 7) (w' := NW cy aN v1 v2 G v31) hx hb hts inw_X2 tyX2 tyX2_ok nmX2 hown hK hP hD hS 51 rfl rfl 2 (by decide) (va_Nw.use rfl (hK.2 (.fieldLinkNest "NoonWells" 137 "NoonWells$Script" "length" "I" "NoonWells") (by decide +kernel))) (fun _ h9 => h9) rfl (by decide +kernel) (Nat.le_of_ble_eq_true rfl) (by rw [← ev31]; rfl) dX3_clearText_13 (fun H locs hP hD hS => ?_)
    refine lv_iload_n hx hb dX3_clearText_16 rfl (lv_at hl 0 rfl) ?_
    exact hend H locs _ _ _ _ _ _ _ (some_fst hc) (some_snd hc) rfl hP hD hS dX3_clearText_17
  rw [hHe, hLe] at goal0
  exact goal0
set_option maxHeartbeats 4000000 in
set_option maxRecDepth 100000 in
theorem C_X3_fault (l : Launch) (D : va_G) (cy : Nat → ClassId) (aN : Nat → Nat → Nat) (v1 : FV) (v2 : FV) (G : (Nat → FV)) (v3 : FV) (p1 : Int32) (r : Int32) (v1' : FV) (v2' : FV) (G' : (Nat → FV)) (v3' : FV) (hc : f_X3_fault v1 v2 G v3 p1 = some (r, (v1', v2', G', v3'))) : ConI l yX3_fault wsX3_fault 7 165 D cy (fun (u : FV × FV × (Nat → FV) × FV) => NW cy aN u.1 u.2.1 u.2.2.1 u.2.2.2) [.ref (aN 0 0), .int p1] ((v1, v2, G, v3)) ((v1', v2', G', v3')) r := by
  refine bodyI (cc := cX3_fault) (maxL := 2) (ty := .int) (by decide +kernel) rfl (Nat.le_of_ble_eq_true rfl) ?_
  intro p e s m args below meth c A Q hx hb hml hts hown hK hP hD hA hS hend ls hl
  have hown : s.vm.findClass RX3 = some m.cls := hown
  have hP : va_P D vwCl (NW cy aN v1 v2 G v3) s.heap := hP
  have hD : va_D A (NW cy aN v1 v2 G v3) := hD
  have hl : lv_has ls 2 [(0, .ref (aN 0 0)), (1, .int p1)] := hl
  have hend : ∀ (H : Heap) (locs : List Loc) (pc : Nat) (ls : Array Slot) (v : Int32) (v1 : FV) (v2 : FV) (G : (Nat → FV)) (v3 : FV), v = r → (v1, v2, G, v3) = (v1', v2', G', v3') → narrow .int (.int v) = .int v → va_P D vwCl (NW cy aN v1 v2 G v3) H → va_D A (NW cy aN v1 v2 G v3) → va_S A s.heap H locs → decode cX3_fault pc = .ok (.ireturn, 1) → W p l e (RM 7 165) s m args below meth c H locs 0 0 Q (F0 m pc ls [.int v]) := fun H locs pc ls v v1 v2 G v3 h1 h2 h3 h4 h5 h6 h7 => hend H locs pc ls v ((v1, v2, G, v3)) h1 h2 h3 h4 h5 h6 h7
  have fl_16 := hts (.fieldLink RX3 16 "NoonWells" "trial" "LNoonWells$Field;") (by decide +kernel)
  have inw_X3 := (by decide +kernel : ∀ w ∈ u_ws RX3 TX3 4, w ∈ wsX3_fault)
  have fl_12 := hts (.fieldLink RX3 12 "NoonWells" "now" "LNoonWells$Field;") (by decide +kernel)
  have fl_29 := hts (.fieldLink RX3 29 "NoonWells" "script" "LNoonWells$Script;") (by decide +kernel)
  have inw_X2 := (by decide +kernel : ∀ w ∈ u_ws RX2 TX2 7, w ∈ wsX3_fault)
  obtain ⟨H, hHe⟩ : ∃ H : Heap, H = s.heap := ⟨_, rfl⟩
  obtain ⟨locs, hLe⟩ : ∃ x : List Loc, x = [] := ⟨_, rfl⟩
  have hP : va_P D vwCl (NW cy aN v1 v2 G v3) H := by rw [hHe]; exact hP
  have hS : va_S A s.heap H locs := by rw [hHe, hLe]; exact hS
  have goal0 : W p l e (RM 7 165) s m args below meth c H locs 0 0 Q (F0 m 0 ls []) := by
    refine lv_iload_n hx hb dX3_fault_0 rfl (lv_at hl 1 rfl) ?_
    refine lv_if_eq (tgt := 11) hx hb dX3_fault_1 (by decide) (fun c1 => ?_) (fun c1 => ?_)
    · replace hc := ite_t c1 hc
      refine lv_aload_n hx hb dX3_fault_11 rfl (lv_at hl 0 rfl) ?_
      refine va_get (ci := 3) (v := .ref (aN 2 0)) (C := RX3) (T := TX3) (N := 4) hx hb hts inw_X3 hown hK.1 hP 0 rfl rfl 1 (by decide) fl_16 (fun _ h9 => h9) rfl dX3_fault_12 ?_
      refine lv_aload_n hx hb dX3_fault_15 rfl (lv_at hl 0 rfl) ?_
      refine va_get (ci := 3) (v := .ref (aN 1 0)) (C := RX3) (T := TX3) (N := 4) hx hb hts inw_X3 hown hK.1 hP 0 rfl rfl 0 (by decide) fl_12 (fun _ h9 => h9) rfl dX3_fault_16 ?_
      obtain ⟨v22, hc2, hc⟩ := b1_some hc
      refine gc_VV (n := 1) (q0 := 0) (ci := 0) (w' := NW cy aN v1 v22 G v3) hx hb hml hown hts hK hP hD hS hA hl.1 ⟨Nat.le_refl _, Nat.le_refl _⟩ (C_X0_copyFrom l D cy (aN 2) (aN 1) v1 v2 v22 hc2) gX3_fault_X0_copyFrom rfl (by decide +kernel) rfl ⟨by decide, by decide⟩ (Jn.perm NW_tn NW_tn) rfl rfl rfl (Nat.le_of_ble_eq_true rfl) dX3_fault_19 (fun H locs hP hD hS => ?_)
      refine lv_aload_n hx hb dX3_fault_22 rfl (lv_at hl 0 rfl) ?_
      refine va_get (ci := 3) (v := .ref (aN 3 0)) (C := RX3) (T := TX3) (N := 4) hx hb hts inw_X3 hown hK.1 hP 0 rfl rfl 3 (by decide) fl_29 (fun _ h9 => h9) rfl dX3_fault_23 ?_
      refine lv_aload_n hx hb dX3_fault_26 rfl (lv_at hl 0 rfl) ?_
      refine va_get (ci := 3) (v := .ref (aN 2 0)) (C := RX3) (T := TX3) (N := 4) hx hb hts inw_X3 hown hK.1 hP 0 rfl rfl 1 (by decide) fl_16 (fun _ h9 => h9) rfl dX3_fault_27 ?_
      obtain ⟨t3, hc3, hc⟩ := b1_some hc
      refine gc_VV (n := 1) (q0 := 25) (ci := 2) (w' := NW cy aN v1 t3.1 G t3.2) hx hb hml hown hts hK hP hD hS hA hl.1 ⟨Nat.le_refl _, Nat.le_refl _⟩ (C_X2_runOn l D cy (aN 3) (aN 2) v22 v3 t3.1 t3.2 hc3) gX3_fault_X2_runOn rfl (by decide +kernel) rfl ⟨by decide, by decide⟩ (Jn.perm NW_ts NW_ts) rfl rfl rfl (Nat.le_of_ble_eq_true rfl) dX3_fault_30 (fun H locs hP hD hS => ?_)
      refine lv_aload_n hx hb dX3_fault_33 rfl (lv_at hl 0 rfl) ?_
      refine va_get (ci := 3) (v := .ref (aN 3 0)) (C := RX3) (T := TX3) (N := 4) hx hb hts inw_X3 hown hK.1 hP 0 rfl rfl 3 (by decide) fl_29 (fun _ h9 => h9) rfl dX3_fault_34 ?_
      refine va_getN (ci := 2) (v := .int (t3.2 0 4)) (C := RX2) (T := TX2) (N := 7) hx hb hts inw_X2 hown hK.1 hP 51 rfl rfl 6 (by decide) (va_Nw.use rfl (hK.2 (.fieldLinkNest "NoonWells" 150 "NoonWells$Script" "reason" "I" "NoonWells") (by decide +kernel))) (fun _ h9 => h9) rfl dX3_fault_37 ?_
      refine lv_if_ne (tgt := 46) hx hb dX3_fault_40 (by decide) (fun c4 => ?_) (fun c4 => ?_)
      · replace hc := ite_f c4 hc
        refine lv_iload_n hx hb dX3_fault_46 rfl (lv_at hl 1 rfl) ?_
        refine lv_if_ne (tgt := 60) hx hb dX3_fault_47 (by decide) (fun c5 => ?_) (fun c5 => ?_)
        · replace hc := ite_f c5 hc
          refine lv_aload_n hx hb dX3_fault_60 rfl (lv_at hl 0 rfl) ?_
          refine va_get (ci := 3) (v := .ref (aN 3 0)) (C := RX3) (T := TX3) (N := 4) hx hb hts inw_X3 hown hK.1 hP 0 rfl rfl 3 (by decide) fl_29 (fun _ h9 => h9) rfl dX3_fault_61 ?_
          refine va_getN (ci := 2) (v := .int (t3.2 0 4)) (C := RX2) (T := TX2) (N := 7) hx hb hts inw_X2 hown hK.1 hP 51 rfl rfl 6 (by decide) (va_Nw.use rfl (hK.2 (.fieldLinkNest "NoonWells" 150 "NoonWells$Script" "reason" "I" "NoonWells") (by decide +kernel))) (fun _ h9 => h9) rfl dX3_fault_64 ?_
          exact hend H locs _ _ _ _ _ _ _ (some_fst hc) (some_snd hc) rfl hP hD hS dX3_fault_67
        · replace hc := ite_t c5 hc
          refine lv_aload_n hx hb dX3_fault_50 rfl (lv_at hl 0 rfl) ?_
          refine va_get (ci := 3) (v := .ref (aN 3 0)) (C := RX3) (T := TX3) (N := 4) hx hb hts inw_X3 hown hK.1 hP 0 rfl rfl 3 (by decide) fl_29 (fun _ h9 => h9) rfl dX3_fault_51 ?_
          refine va_getN (ci := 2) (v := .int (t3.2 0 3)) (C := RX2) (T := TX2) (N := 7) hx hb hts inw_X2 hown hK.1 hP 51 rfl rfl 5 (by decide) (va_Nw.use rfl (hK.2 (.fieldLinkNest "NoonWells" 153 "NoonWells$Script" "faultAt" "I" "NoonWells") (by decide +kernel))) (fun _ h9 => h9) rfl dX3_fault_54 ?_
          refine lv_goto (tgt := 67) hx hb dX3_fault_57 (by decide) ?_
          exact hend H locs _ _ _ _ _ _ _ (some_fst hc) (some_snd hc) rfl hP hD hS dX3_fault_67
      · replace hc := ite_t c4 hc
        refine lv_bipush (v := (-4)) hx hb dX3_fault_43 (by decide +kernel) ?_
        exact hend H locs _ _ _ _ _ _ _ (some_fst hc) (some_snd hc) rfl hP hD hS dX3_fault_45
    · replace hc := ite_f c1 hc
      refine lv_iload_n hx hb dX3_fault_4 rfl (lv_at hl 1 rfl) ?_
      refine lv_iconst (v := 1) hx hb dX3_fault_5 (by decide) ?_
      refine lv_icmp_eq (tgt := 11) hx hb dX3_fault_6 (by decide) (fun c6 => ?_) (fun c6 => ?_)
      · replace hc := ite_t c6 hc
        refine lv_aload_n hx hb dX3_fault_11 rfl (lv_at hl 0 rfl) ?_
        refine va_get (ci := 3) (v := .ref (aN 2 0)) (C := RX3) (T := TX3) (N := 4) hx hb hts inw_X3 hown hK.1 hP 0 rfl rfl 1 (by decide) fl_16 (fun _ h9 => h9) rfl dX3_fault_12 ?_
        refine lv_aload_n hx hb dX3_fault_15 rfl (lv_at hl 0 rfl) ?_
        refine va_get (ci := 3) (v := .ref (aN 1 0)) (C := RX3) (T := TX3) (N := 4) hx hb hts inw_X3 hown hK.1 hP 0 rfl rfl 0 (by decide) fl_12 (fun _ h9 => h9) rfl dX3_fault_16 ?_
        obtain ⟨v27, hc7, hc⟩ := b1_some hc
        refine gc_VV (n := 1) (q0 := 0) (ci := 0) (w' := NW cy aN v1 v27 G v3) hx hb hml hown hts hK hP hD hS hA hl.1 ⟨Nat.le_refl _, Nat.le_refl _⟩ (C_X0_copyFrom l D cy (aN 2) (aN 1) v1 v2 v27 hc7) gX3_fault_X0_copyFrom rfl (by decide +kernel) rfl ⟨by decide, by decide⟩ (Jn.perm NW_tn NW_tn) rfl rfl rfl (Nat.le_of_ble_eq_true rfl) dX3_fault_19 (fun H locs hP hD hS => ?_)
        refine lv_aload_n hx hb dX3_fault_22 rfl (lv_at hl 0 rfl) ?_
        refine va_get (ci := 3) (v := .ref (aN 3 0)) (C := RX3) (T := TX3) (N := 4) hx hb hts inw_X3 hown hK.1 hP 0 rfl rfl 3 (by decide) fl_29 (fun _ h9 => h9) rfl dX3_fault_23 ?_
        refine lv_aload_n hx hb dX3_fault_26 rfl (lv_at hl 0 rfl) ?_
        refine va_get (ci := 3) (v := .ref (aN 2 0)) (C := RX3) (T := TX3) (N := 4) hx hb hts inw_X3 hown hK.1 hP 0 rfl rfl 1 (by decide) fl_16 (fun _ h9 => h9) rfl dX3_fault_27 ?_
        obtain ⟨t8, hc8, hc⟩ := b1_some hc
        refine gc_VV (n := 1) (q0 := 25) (ci := 2) (w' := NW cy aN v1 t8.1 G t8.2) hx hb hml hown hts hK hP hD hS hA hl.1 ⟨Nat.le_refl _, Nat.le_refl _⟩ (C_X2_runOn l D cy (aN 3) (aN 2) v27 v3 t8.1 t8.2 hc8) gX3_fault_X2_runOn rfl (by decide +kernel) rfl ⟨by decide, by decide⟩ (Jn.perm NW_ts NW_ts) rfl rfl rfl (Nat.le_of_ble_eq_true rfl) dX3_fault_30 (fun H locs hP hD hS => ?_)
        refine lv_aload_n hx hb dX3_fault_33 rfl (lv_at hl 0 rfl) ?_
        refine va_get (ci := 3) (v := .ref (aN 3 0)) (C := RX3) (T := TX3) (N := 4) hx hb hts inw_X3 hown hK.1 hP 0 rfl rfl 3 (by decide) fl_29 (fun _ h9 => h9) rfl dX3_fault_34 ?_
        refine va_getN (ci := 2) (v := .int (t8.2 0 4)) (C := RX2) (T := TX2) (N := 7) hx hb hts inw_X2 hown hK.1 hP 51 rfl rfl 6 (by decide) (va_Nw.use rfl (hK.2 (.fieldLinkNest "NoonWells" 150 "NoonWells$Script" "reason" "I" "NoonWells") (by decide +kernel))) (fun _ h9 => h9) rfl dX3_fault_37 ?_
        refine lv_if_ne (tgt := 46) hx hb dX3_fault_40 (by decide) (fun c9 => ?_) (fun c9 => ?_)
        · replace hc := ite_f c9 hc
          refine lv_iload_n hx hb dX3_fault_46 rfl (lv_at hl 1 rfl) ?_
          refine lv_if_ne (tgt := 60) hx hb dX3_fault_47 (by decide) (fun c10 => ?_) (fun c10 => ?_)
          · replace hc := ite_f c10 hc
            refine lv_aload_n hx hb dX3_fault_60 rfl (lv_at hl 0 rfl) ?_
            refine va_get (ci := 3) (v := .ref (aN 3 0)) (C := RX3) (T := TX3) (N := 4) hx hb hts inw_X3 hown hK.1 hP 0 rfl rfl 3 (by decide) fl_29 (fun _ h9 => h9) rfl dX3_fault_61 ?_
            refine va_getN (ci := 2) (v := .int (t8.2 0 4)) (C := RX2) (T := TX2) (N := 7) hx hb hts inw_X2 hown hK.1 hP 51 rfl rfl 6 (by decide) (va_Nw.use rfl (hK.2 (.fieldLinkNest "NoonWells" 150 "NoonWells$Script" "reason" "I" "NoonWells") (by decide +kernel))) (fun _ h9 => h9) rfl dX3_fault_64 ?_
            exact hend H locs _ _ _ _ _ _ _ (some_fst hc) (some_snd hc) rfl hP hD hS dX3_fault_67
          · replace hc := ite_t c10 hc
            refine lv_aload_n hx hb dX3_fault_50 rfl (lv_at hl 0 rfl) ?_
            refine va_get (ci := 3) (v := .ref (aN 3 0)) (C := RX3) (T := TX3) (N := 4) hx hb hts inw_X3 hown hK.1 hP 0 rfl rfl 3 (by decide) fl_29 (fun _ h9 => h9) rfl dX3_fault_51 ?_
            refine va_getN (ci := 2) (v := .int (t8.2 0 3)) (C := RX2) (T := TX2) (N := 7) hx hb hts inw_X2 hown hK.1 hP 51 rfl rfl 5 (by decide) (va_Nw.use rfl (hK.2 (.fieldLinkNest "NoonWells" 153 "NoonWells$Script" "faultAt" "I" "NoonWells") (by decide +kernel))) (fun _ h9 => h9) rfl dX3_fault_54 ?_
            refine lv_goto (tgt := 67) hx hb dX3_fault_57 (by decide) ?_
            exact hend H locs _ _ _ _ _ _ _ (some_fst hc) (some_snd hc) rfl hP hD hS dX3_fault_67
        · replace hc := ite_t c9 hc
          refine lv_bipush (v := (-4)) hx hb dX3_fault_43 (by decide +kernel) ?_
          exact hend H locs _ _ _ _ _ _ _ (some_fst hc) (some_snd hc) rfl hP hD hS dX3_fault_45
      · replace hc := ite_f c6 hc
        refine lv_iconst (v := (-1)) hx hb dX3_fault_9 (by decide) ?_
        exact hend H locs _ _ _ _ _ _ _ (some_fst hc) (some_snd hc) rfl hP hD hS dX3_fault_10
  rw [hHe, hLe] at goal0
  exact goal0
