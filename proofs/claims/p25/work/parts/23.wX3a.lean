set_option maxHeartbeats 4000000 in
set_option maxRecDepth 100000 in
theorem C_X3_droughtOf (l : Launch) (D : va_G) (cy : Nat → ClassId) (aN : Nat → Nat → Nat) (v1 : FV) (v2 : FV) (G : (Nat → FV)) (v3 : FV) (p1 : Int32) (p2 : Int32) (r : Int32) (hc : f_X3_droughtOf v1 v2 G v3 p1 p2 = some r) : ConI l yX3_droughtOf wsX3_droughtOf 0 0 D cy (fun (u : FV × FV × (Nat → FV) × FV) => NW cy aN u.1 u.2.1 u.2.2.1 u.2.2.2) [.ref (aN 0 0), .int p1, .int p2] ((v1, v2, G, v3)) ((v1, v2, G, v3)) r := by
  refine bodyI (cc := cX3_droughtOf) (maxL := 3) (ty := .int) (by decide +kernel) rfl (Nat.le_of_ble_eq_true rfl) ?_
  intro p e s m args below meth c A Q hx hb hml hts hown hK hP hD hA hS hend ls hl
  have hown : s.vm.findClass RX3 = some m.cls := hown
  have hP : va_P D vwCl (NW cy aN v1 v2 G v3) s.heap := hP
  have hD : va_D A (NW cy aN v1 v2 G v3) := hD
  have hl : lv_has ls 3 [(0, .ref (aN 0 0)), (1, .int p1), (2, .int p2)] := hl
  have hend : ∀ (H : Heap) (locs : List Loc) (pc : Nat) (ls : Array Slot) (v : Int32), v = r → narrow .int (.int v) = .int v → va_P D vwCl (NW cy aN v1 v2 G v3) H → va_D A (NW cy aN v1 v2 G v3) → va_S A s.heap H locs → decode cX3_droughtOf pc = .ok (.ireturn, 1) → W p l e (RM 0 0) s m args below meth c H locs 0 0 Q (F0 m pc ls [.int v]) := fun H locs pc ls v h1 h3 h4 h5 h6 h7 => hend H locs pc ls v ((v1, v2, G, v3)) h1 rfl h3 h4 h5 h6 h7
  have fl_12 := hts (.fieldLink RX3 12 "NoonWells" "now" "LNoonWells$Field;") (by decide +kernel)
  have inw_X3 := (by decide +kernel : ∀ w ∈ u_ws RX3 TX3 4, w ∈ wsX3_droughtOf)
  have inw_X0 := (by decide +kernel : ∀ w ∈ u_ws RX0 TX0 10, w ∈ wsX3_droughtOf)
  obtain ⟨H, hHe⟩ : ∃ H : Heap, H = s.heap := ⟨_, rfl⟩
  obtain ⟨locs, hLe⟩ : ∃ x : List Loc, x = [] := ⟨_, rfl⟩
  have hP : va_P D vwCl (NW cy aN v1 v2 G v3) H := by rw [hHe]; exact hP
  have hS : va_S A s.heap H locs := by rw [hHe, hLe]; exact hS
  have goal0 : W p l e (RM 0 0) s m args below meth c H locs 0 0 Q (F0 m 0 ls []) := by
    refine lv_iload_n hx hb dX3_droughtOf_0 rfl (lv_at hl 1 rfl) ?_
    refine lv_if_lt (tgt := 24) hx hb dX3_droughtOf_1 (by decide) (fun c1 => ?_) (fun c1 => ?_)
    · replace hc := ite_t c1 hc
      refine lv_iconst (v := (-1)) hx hb dX3_droughtOf_24 (by decide) ?_
      exact hend H locs _ _ _ (some_one hc) rfl hP hD hS dX3_droughtOf_25
    · replace hc := ite_f c1 hc
      refine lv_iload_n hx hb dX3_droughtOf_4 rfl (lv_at hl 1 rfl) ?_
      refine lv_aload_n hx hb dX3_droughtOf_5 rfl (lv_at hl 0 rfl) ?_
      refine va_get (ci := 3) (v := .ref (aN 1 0)) (C := RX3) (T := TX3) (N := 4) hx hb hts inw_X3 hown hK.1 hP 0 rfl rfl 0 (by decide) fl_12 (fun _ h9 => h9) rfl dX3_droughtOf_6 ?_
      refine va_getN (ci := 0) (v := .int (v1 0 1)) (C := RX0) (T := TX0) (N := 10) hx hb hts inw_X0 hown hK.1 hP 1 rfl rfl 6 (by decide) (va_Nw.use rfl (hK.2 (.fieldLinkNest "NoonWells" 49 "NoonWells$Field" "droughtCount" "I" "NoonWells") (by decide +kernel))) (fun _ h9 => h9) rfl dX3_droughtOf_9 ?_
      refine lv_icmp_ge (tgt := 24) hx hb dX3_droughtOf_12 (by decide) (fun c2 => ?_) (fun c2 => ?_)
      · replace hc := ite_t c2 hc
        refine lv_iconst (v := (-1)) hx hb dX3_droughtOf_24 (by decide) ?_
        exact hend H locs _ _ _ (some_one hc) rfl hP hD hS dX3_droughtOf_25
      · replace hc := ite_f c2 hc
        refine lv_iload_n hx hb dX3_droughtOf_15 rfl (lv_at hl 2 rfl) ?_
        refine lv_if_lt (tgt := 24) hx hb dX3_droughtOf_16 (by decide) (fun c3 => ?_) (fun c3 => ?_)
        · replace hc := ite_t c3 hc
          refine lv_iconst (v := (-1)) hx hb dX3_droughtOf_24 (by decide) ?_
          exact hend H locs _ _ _ (some_one hc) rfl hP hD hS dX3_droughtOf_25
        · replace hc := ite_f c3 hc
          refine lv_iload_n hx hb dX3_droughtOf_19 rfl (lv_at hl 2 rfl) ?_
          refine lv_iconst (v := 3) hx hb dX3_droughtOf_20 (by decide) ?_
          refine lv_icmp_lt (tgt := 26) hx hb dX3_droughtOf_21 (by decide) (fun c4 => ?_) (fun c4 => ?_)
          · replace hc := ite_t c4 hc
            refine lv_aload_n hx hb dX3_droughtOf_26 rfl (lv_at hl 0 rfl) ?_
            refine va_get (ci := 3) (v := .ref (aN 1 0)) (C := RX3) (T := TX3) (N := 4) hx hb hts inw_X3 hown hK.1 hP 0 rfl rfl 0 (by decide) fl_12 (fun _ h9 => h9) rfl dX3_droughtOf_27 ?_
            refine va_getN (ci := 0) (v := .ref (aN 1 2)) (C := RX0) (T := TX0) (N := 10) hx hb hts inw_X0 hown hK.1 hP 1 rfl rfl 1 (by decide) (va_Nw.use rfl (hK.2 (.fieldLinkNest "NoonWells" 53 "NoonWells$Field" "droughts" "[[I" "NoonWells") (by decide +kernel))) (fun _ h9 => h9) rfl dX3_droughtOf_30 ?_
            refine lv_iload_n hx hb dX3_droughtOf_33 rfl (lv_at hl 2 rfl) ?_
            obtain ⟨j5, hi5, hj5, hn5, hc⟩ := ix_some hc
            refine g_aald (v := aN 1 (19 + j5)) hx hb hK hP 3 rfl hi5 (by rw [hj5]; exact if_pos hn5) dX3_droughtOf_34 ?_
            refine lv_iload_n hx hb dX3_droughtOf_35 rfl (lv_at hl 1 rfl) ?_
            obtain ⟨x6, hi6, hv6, hc⟩ := rd_some hc
            refine g_iald (x := x6) hx hb hK hP (1 + (19 + j5)) (NW_dry hn5) hi6 hv6 dX3_droughtOf_36 ?_
            exact hend H locs _ _ _ (some_one hc) rfl hP hD hS dX3_droughtOf_37
          · replace hc := ite_f c4 hc
            refine lv_iconst (v := (-1)) hx hb dX3_droughtOf_24 (by decide) ?_
            exact hend H locs _ _ _ (some_one hc) rfl hP hD hS dX3_droughtOf_25
  rw [hHe, hLe] at goal0
  exact goal0
set_option maxHeartbeats 4000000 in
set_option maxRecDepth 100000 in
theorem C_X3_wellOf (l : Launch) (D : va_G) (cy : Nat → ClassId) (aN : Nat → Nat → Nat) (v1 : FV) (v2 : FV) (G : (Nat → FV)) (v3 : FV) (p1 : Int32) (p2 : Int32) (r : Int32) (hc : f_X3_wellOf v1 v2 G v3 p1 p2 = some r) : ConI l yX3_wellOf wsX3_wellOf 2 45 D cy (fun (u : FV × FV × (Nat → FV) × FV) => NW cy aN u.1 u.2.1 u.2.2.1 u.2.2.2) [.ref (aN 0 0), .int p1, .int p2] ((v1, v2, G, v3)) ((v1, v2, G, v3)) r := by
  refine bodyI (cc := cX3_wellOf) (maxL := 3) (ty := .int) (by decide +kernel) rfl (Nat.le_of_ble_eq_true rfl) ?_
  intro p e s m args below meth c A Q hx hb hml hts hown hK hP hD hA hS hend ls hl
  have hown : s.vm.findClass RX3 = some m.cls := hown
  have hP : va_P D vwCl (NW cy aN v1 v2 G v3) s.heap := hP
  have hD : va_D A (NW cy aN v1 v2 G v3) := hD
  have hl : lv_has ls 3 [(0, .ref (aN 0 0)), (1, .int p1), (2, .int p2)] := hl
  have hend : ∀ (H : Heap) (locs : List Loc) (pc : Nat) (ls : Array Slot) (v : Int32), v = r → narrow .int (.int v) = .int v → va_P D vwCl (NW cy aN v1 v2 G v3) H → va_D A (NW cy aN v1 v2 G v3) → va_S A s.heap H locs → decode cX3_wellOf pc = .ok (.ireturn, 1) → W p l e (RM 2 45) s m args below meth c H locs 0 0 Q (F0 m pc ls [.int v]) := fun H locs pc ls v h1 h3 h4 h5 h6 h7 => hend H locs pc ls v ((v1, v2, G, v3)) h1 rfl h3 h4 h5 h6 h7
  have fl_12 := hts (.fieldLink RX3 12 "NoonWells" "now" "LNoonWells$Field;") (by decide +kernel)
  have inw_X3 := (by decide +kernel : ∀ w ∈ u_ws RX3 TX3 4, w ∈ wsX3_wellOf)
  have inw_X0 := (by decide +kernel : ∀ w ∈ u_ws RX0 TX0 10, w ∈ wsX3_wellOf)
  obtain ⟨H, hHe⟩ : ∃ H : Heap, H = s.heap := ⟨_, rfl⟩
  obtain ⟨locs, hLe⟩ : ∃ x : List Loc, x = [] := ⟨_, rfl⟩
  have hP : va_P D vwCl (NW cy aN v1 v2 G v3) H := by rw [hHe]; exact hP
  have hS : va_S A s.heap H locs := by rw [hHe, hLe]; exact hS
  have goal0 : W p l e (RM 2 45) s m args below meth c H locs 0 0 Q (F0 m 0 ls []) := by
    refine lv_aload_n hx hb dX3_wellOf_0 rfl (lv_at hl 0 rfl) ?_
    refine va_get (ci := 3) (v := .ref (aN 1 0)) (C := RX3) (T := TX3) (N := 4) hx hb hts inw_X3 hown hK.1 hP 0 rfl rfl 0 (by decide) fl_12 (fun _ h9 => h9) rfl dX3_wellOf_1 ?_
    refine lv_iload_n hx hb dX3_wellOf_4 rfl (lv_at hl 1 rfl) ?_
    obtain ⟨x1, hc1, hc⟩ := b1_some hc
    refine gc_VI (n := 1) (q0 := 0) (ci := 0) (w' := NW cy aN v1 v2 G v3) hx hb hml hown hts hK hP hD hS hA hl.1 ⟨Nat.le_refl _, Nat.le_refl _⟩ (C_X0_isWell l D cy (aN 1) v1 p1 x1 hc1) gX3_wellOf_X0_isWell rfl (by decide +kernel) rfl ⟨by decide, by decide⟩ (Jn.perm NW_now NW_now) rfl rfl rfl (Nat.le_of_ble_eq_true rfl) dX3_wellOf_5 (fun H locs hP hD hS => ?_)
    refine lv_if_eq (tgt := 21) hx hb dX3_wellOf_8 (by decide) (fun c2 => ?_) (fun c2 => ?_)
    · replace hc := ite_t c2 hc
      refine lv_iconst (v := (-1)) hx hb dX3_wellOf_21 (by decide) ?_
      exact hend H locs _ _ _ (some_one hc) rfl hP hD hS dX3_wellOf_22
    · replace hc := ite_f c2 hc
      refine lv_iload_n hx hb dX3_wellOf_11 rfl (lv_at hl 2 rfl) ?_
      refine lv_if_lt (tgt := 21) hx hb dX3_wellOf_12 (by decide) (fun c3 => ?_) (fun c3 => ?_)
      · replace hc := ite_t c3 hc
        refine lv_iconst (v := (-1)) hx hb dX3_wellOf_21 (by decide) ?_
        exact hend H locs _ _ _ (some_one hc) rfl hP hD hS dX3_wellOf_22
      · replace hc := ite_f c3 hc
        refine lv_iload_n hx hb dX3_wellOf_15 rfl (lv_at hl 2 rfl) ?_
        refine lv_bipush (v := 13) hx hb dX3_wellOf_16 (by decide +kernel) ?_
        refine lv_icmp_le (tgt := 23) hx hb dX3_wellOf_18 (by decide) (fun c4 => ?_) (fun c4 => ?_)
        · replace hc := ite_t c4 hc
          refine lv_iload_n hx hb dX3_wellOf_23 rfl (lv_at hl 2 rfl) ?_
          refine lv_bipush (v := 13) hx hb dX3_wellOf_24 (by decide +kernel) ?_
          refine lv_icmp_ne (tgt := 55) hx hb dX3_wellOf_26 (by decide) (fun c5 => ?_) (fun c5 => ?_)
          · replace hc := ite_f c5 hc
            refine lv_iload_n hx hb dX3_wellOf_55 rfl (lv_at hl 2 rfl) ?_
            refine lv_if_ne (tgt := 66) hx hb dX3_wellOf_56 (by decide) (fun c6 => ?_) (fun c6 => ?_)
            · replace hc := ite_f c6 hc
              refine lv_aload_n hx hb dX3_wellOf_66 rfl (lv_at hl 0 rfl) ?_
              refine va_get (ci := 3) (v := .ref (aN 1 0)) (C := RX3) (T := TX3) (N := 4) hx hb hts inw_X3 hown hK.1 hP 0 rfl rfl 0 (by decide) fl_12 (fun _ h9 => h9) rfl dX3_wellOf_67 ?_
              refine va_getN (ci := 0) (v := .ref (aN 1 1)) (C := RX0) (T := TX0) (N := 10) hx hb hts inw_X0 hown hK.1 hP 1 rfl rfl 0 (by decide) (va_Nw.use rfl (hK.2 (.fieldLinkNest "NoonWells" 68 "NoonWells$Field" "wells" "[[I" "NoonWells") (by decide +kernel))) (fun _ h9 => h9) rfl dX3_wellOf_70 ?_
              refine lv_iload_n hx hb dX3_wellOf_73 rfl (lv_at hl 2 rfl) ?_
              obtain ⟨j7, hi7, hj7, hn7, hc⟩ := ix_some hc
              refine g_aald (v := aN 1 (6 + j7)) hx hb hK hP 2 rfl hi7 (by rw [hj7]; exact if_pos hn7) dX3_wellOf_74 ?_
              refine lv_iload_n hx hb dX3_wellOf_75 rfl (lv_at hl 1 rfl) ?_
              obtain ⟨x8, hi8, hv8, hc⟩ := rd_some hc
              refine g_iald (x := x8) hx hb hK hP (1 + (6 + j7)) (NW_row hn7) hi8 hv8 dX3_wellOf_76 ?_
              exact hend H locs _ _ _ (some_one hc) rfl hP hD hS dX3_wellOf_77
            · replace hc := ite_t c6 hc
              refine lv_iload_n hx hb dX3_wellOf_59 rfl (lv_at hl 1 rfl) ?_
              refine lv_if_ne (tgt := 66) hx hb dX3_wellOf_60 (by decide) (fun c9 => ?_) (fun c9 => ?_)
              · replace hc := ite_f c9 hc
                refine lv_aload_n hx hb dX3_wellOf_66 rfl (lv_at hl 0 rfl) ?_
                refine va_get (ci := 3) (v := .ref (aN 1 0)) (C := RX3) (T := TX3) (N := 4) hx hb hts inw_X3 hown hK.1 hP 0 rfl rfl 0 (by decide) fl_12 (fun _ h9 => h9) rfl dX3_wellOf_67 ?_
                refine va_getN (ci := 0) (v := .ref (aN 1 1)) (C := RX0) (T := TX0) (N := 10) hx hb hts inw_X0 hown hK.1 hP 1 rfl rfl 0 (by decide) (va_Nw.use rfl (hK.2 (.fieldLinkNest "NoonWells" 68 "NoonWells$Field" "wells" "[[I" "NoonWells") (by decide +kernel))) (fun _ h9 => h9) rfl dX3_wellOf_70 ?_
                refine lv_iload_n hx hb dX3_wellOf_73 rfl (lv_at hl 2 rfl) ?_
                obtain ⟨j10, hi10, hj10, hn10, hc⟩ := ix_some hc
                refine g_aald (v := aN 1 (6 + j10)) hx hb hK hP 2 rfl hi10 (by rw [hj10]; exact if_pos hn10) dX3_wellOf_74 ?_
                refine lv_iload_n hx hb dX3_wellOf_75 rfl (lv_at hl 1 rfl) ?_
                obtain ⟨x11, hi11, hv11, hc⟩ := rd_some hc
                refine g_iald (x := x11) hx hb hK hP (1 + (6 + j10)) (NW_row hn10) hi11 hv11 dX3_wellOf_76 ?_
                exact hend H locs _ _ _ (some_one hc) rfl hP hD hS dX3_wellOf_77
              · replace hc := ite_t c9 hc
                refine lv_bipush (v := (-4)) hx hb dX3_wellOf_63 (by decide +kernel) ?_
                exact hend H locs _ _ _ (some_one hc) rfl hP hD hS dX3_wellOf_65
          · replace hc := ite_t c5 hc
            refine lv_aload_n hx hb dX3_wellOf_29 rfl (lv_at hl 0 rfl) ?_
            refine va_get (ci := 3) (v := .ref (aN 1 0)) (C := RX3) (T := TX3) (N := 4) hx hb hts inw_X3 hown hK.1 hP 0 rfl rfl 0 (by decide) fl_12 (fun _ h9 => h9) rfl dX3_wellOf_30 ?_
            refine lv_iload_n hx hb dX3_wellOf_33 rfl (lv_at hl 1 rfl) ?_
            refine lv_aload_n hx hb dX3_wellOf_34 rfl (lv_at hl 0 rfl) ?_
            refine va_get (ci := 3) (v := .ref (aN 1 0)) (C := RX3) (T := TX3) (N := 4) hx hb hts inw_X3 hown hK.1 hP 0 rfl rfl 0 (by decide) fl_12 (fun _ h9 => h9) rfl dX3_wellOf_35 ?_
            refine va_getN (ci := 0) (v := .int (v1 0 3)) (C := RX0) (T := TX0) (N := 10) hx hb hts inw_X0 hown hK.1 hP 1 rfl rfl 8 (by decide) (va_Nw.use rfl (hK.2 (.fieldLinkNest "NoonWells" 61 "NoonWells$Field" "time" "I" "NoonWells") (by decide +kernel))) (fun _ h9 => h9) rfl dX3_wellOf_38 ?_
            refine lv_iconst (v := 1) hx hb dX3_wellOf_41 (by decide) ?_
            refine lv_iadd hx hb dX3_wellOf_42 ?_
            obtain ⟨x12, hc12, hc⟩ := b1_some hc
            refine gc_VI (n := 2) (q0 := 0) (ci := 0) (w' := NW cy aN v1 v2 G v3) hx hb hml hown hts hK hP hD hS hA hl.1 ⟨Nat.le_refl _, Nat.le_refl _⟩ (C_X0_isDry l D cy (aN 1) v1 p1 ((v1 0 3) + 1) x12 hc12) gX3_wellOf_X0_isDry rfl (by decide +kernel) rfl ⟨by decide, by decide⟩ (Jn.perm NW_now NW_now) rfl rfl rfl (Nat.le_of_ble_eq_true rfl) dX3_wellOf_43 (fun H locs hP hD hS => ?_)
            refine lv_if_eq (tgt := 53) hx hb dX3_wellOf_46 (by decide) (fun c13 => ?_) (fun c13 => ?_)
            · replace hc := ite_t c13 hc
              refine lv_iconst (v := 0) hx hb dX3_wellOf_53 (by decide) ?_
              exact hend H locs _ _ _ (some_one hc) rfl hP hD hS dX3_wellOf_54
            · replace hc := ite_f c13 hc
              refine lv_iconst (v := 1) hx hb dX3_wellOf_49 (by decide) ?_
              refine lv_goto (tgt := 54) hx hb dX3_wellOf_50 (by decide) ?_
              exact hend H locs _ _ _ (some_one hc) rfl hP hD hS dX3_wellOf_54
        · replace hc := ite_f c4 hc
          refine lv_iconst (v := (-1)) hx hb dX3_wellOf_21 (by decide) ?_
          exact hend H locs _ _ _ (some_one hc) rfl hP hD hS dX3_wellOf_22
  rw [hHe, hLe] at goal0
  exact goal0
set_option maxHeartbeats 4000000 in
set_option maxRecDepth 100000 in
theorem C_X3_aboveAt (l : Launch) (D : va_G) (cy : Nat → ClassId) (aN : Nat → Nat → Nat) (v1 : FV) (v2 : FV) (G : (Nat → FV)) (v3 : FV) (p1 : Int32) (p2 : Int32) (r : Int32) (hc : f_X3_aboveAt v1 v2 G v3 p1 p2 = some r) : ConI l yX3_aboveAt wsX3_aboveAt 2 46 D cy (fun (u : FV × FV × (Nat → FV) × FV) => NW cy aN u.1 u.2.1 u.2.2.1 u.2.2.2) [.ref (aN 0 0), .int p1, .int p2] ((v1, v2, G, v3)) ((v1, v2, G, v3)) r := by
  refine bodyI (cc := cX3_aboveAt) (maxL := 4) (ty := .int) (by decide +kernel) rfl (Nat.le_of_ble_eq_true rfl) ?_
  intro p e s m args below meth c A Q hx hb hml hts hown hK hP hD hA hS hend ls hl
  have hown : s.vm.findClass RX3 = some m.cls := hown
  have hP : va_P D vwCl (NW cy aN v1 v2 G v3) s.heap := hP
  have hD : va_D A (NW cy aN v1 v2 G v3) := hD
  have hl : lv_has ls 4 [(0, .ref (aN 0 0)), (1, .int p1), (2, .int p2)] := hl
  have hend : ∀ (H : Heap) (locs : List Loc) (pc : Nat) (ls : Array Slot) (v : Int32), v = r → narrow .int (.int v) = .int v → va_P D vwCl (NW cy aN v1 v2 G v3) H → va_D A (NW cy aN v1 v2 G v3) → va_S A s.heap H locs → decode cX3_aboveAt pc = .ok (.ireturn, 1) → W p l e (RM 2 46) s m args below meth c H locs 0 0 Q (F0 m pc ls [.int v]) := fun H locs pc ls v h1 h3 h4 h5 h6 h7 => hend H locs pc ls v ((v1, v2, G, v3)) h1 rfl h3 h4 h5 h6 h7
  have fl_12 := hts (.fieldLink RX3 12 "NoonWells" "now" "LNoonWells$Field;") (by decide +kernel)
  have inw_X3 := (by decide +kernel : ∀ w ∈ u_ws RX3 TX3 4, w ∈ wsX3_aboveAt)
  obtain ⟨H, hHe⟩ : ∃ H : Heap, H = s.heap := ⟨_, rfl⟩
  obtain ⟨locs, hLe⟩ : ∃ x : List Loc, x = [] := ⟨_, rfl⟩
  have hP : va_P D vwCl (NW cy aN v1 v2 G v3) H := by rw [hHe]; exact hP
  have hS : va_S A s.heap H locs := by rw [hHe, hLe]; exact hS
  have goal0 : W p l e (RM 2 46) s m args below meth c H locs 0 0 Q (F0 m 0 ls []) := by
    refine lv_aload_n hx hb dX3_aboveAt_0 rfl (lv_at hl 0 rfl) ?_
    refine va_get (ci := 3) (v := .ref (aN 1 0)) (C := RX3) (T := TX3) (N := 4) hx hb hts inw_X3 hown hK.1 hP 0 rfl rfl 0 (by decide) fl_12 (fun _ h9 => h9) rfl dX3_aboveAt_1 ?_
    refine lv_iload_n hx hb dX3_aboveAt_4 rfl (lv_at hl 1 rfl) ?_
    obtain ⟨x1, hc1, hc⟩ := b1_some hc
    refine gc_VI (n := 1) (q0 := 0) (ci := 0) (w' := NW cy aN v1 v2 G v3) hx hb hml hown hts hK hP hD hS hA hl.1 ⟨Nat.le_refl _, Nat.le_refl _⟩ (C_X0_isWell l D cy (aN 1) v1 p1 x1 hc1) gX3_aboveAt_X0_isWell rfl (by decide +kernel) rfl ⟨by decide, by decide⟩ (Jn.perm NW_now NW_now) rfl rfl rfl (Nat.le_of_ble_eq_true rfl) dX3_aboveAt_5 (fun H locs hP hD hS => ?_)
    refine lv_if_eq (tgt := 15) hx hb dX3_aboveAt_8 (by decide) (fun c2 => ?_) (fun c2 => ?_)
    · replace hc := ite_t c2 hc
      refine lv_iconst (v := (-1)) hx hb dX3_aboveAt_15 (by decide) ?_
      exact hend H locs _ _ _ (some_one hc) rfl hP hD hS dX3_aboveAt_16
    · replace hc := ite_f c2 hc
      refine lv_iload_n hx hb dX3_aboveAt_11 rfl (lv_at hl 2 rfl) ?_
      refine lv_if_ge (tgt := 17) hx hb dX3_aboveAt_12 (by decide) (fun c3 => ?_) (fun c3 => ?_)
      · replace hc := ite_t c3 hc
        refine lv_aload_n hx hb dX3_aboveAt_17 rfl (lv_at hl 0 rfl) ?_
        refine va_get (ci := 3) (v := .ref (aN 1 0)) (C := RX3) (T := TX3) (N := 4) hx hb hts inw_X3 hown hK.1 hP 0 rfl rfl 0 (by decide) fl_12 (fun _ h9 => h9) rfl dX3_aboveAt_18 ?_
        refine lv_iload_n hx hb dX3_aboveAt_21 rfl (lv_at hl 1 rfl) ?_
        refine lv_iload_n hx hb dX3_aboveAt_22 rfl (lv_at hl 2 rfl) ?_
        obtain ⟨x4, hc4, hc⟩ := b1_some hc
        refine gc_VI (n := 2) (q0 := 0) (ci := 0) (w' := NW cy aN v1 v2 G v3) hx hb hml hown hts hK hP hD hS hA hl.1 ⟨Nat.le_refl _, Nat.le_refl _⟩ (C_X0_wellAbove l D cy (aN 1) v1 p1 p2 x4 hc4) gX3_aboveAt_X0_wellAbove rfl (by decide +kernel) rfl ⟨by decide, by decide⟩ (Jn.perm NW_now NW_now) rfl rfl rfl (Nat.le_of_ble_eq_true rfl) dX3_aboveAt_23 (fun H locs hP hD hS => ?_)
        refine lv_istore_n (lv' := [(3, .int x4), (0, .ref (aN 0 0)), (1, .int p1), (2, .int p2)]) hx hb dX3_aboveAt_26 rfl hl (by decide) rfl (fun ls hl => ?_)
        refine lv_iload_n hx hb dX3_aboveAt_27 rfl (lv_at hl 0 rfl) ?_
        refine lv_iconst (v := (-1)) hx hb dX3_aboveAt_28 (by decide) ?_
        refine lv_icmp_ne (tgt := 37) hx hb dX3_aboveAt_29 (by decide) (fun c5 => ?_) (fun c5 => ?_)
        · replace hc := ite_f c5 hc
          refine lv_iload_n hx hb dX3_aboveAt_37 rfl (lv_at hl 0 rfl) ?_
          exact hend H locs _ _ _ (some_one hc) rfl hP hD hS dX3_aboveAt_38
        · replace hc := ite_t c5 hc
          refine lv_bipush (v := (-4)) hx hb dX3_aboveAt_32 (by decide +kernel) ?_
          refine lv_goto (tgt := 38) hx hb dX3_aboveAt_34 (by decide) ?_
          exact hend H locs _ _ _ (some_one hc) rfl hP hD hS dX3_aboveAt_38
      · replace hc := ite_f c3 hc
        refine lv_iconst (v := (-1)) hx hb dX3_aboveAt_15 (by decide) ?_
        exact hend H locs _ _ _ (some_one hc) rfl hP hD hS dX3_aboveAt_16
  rw [hHe, hLe] at goal0
  exact goal0
set_option maxHeartbeats 4000000 in
set_option maxRecDepth 100000 in
theorem C_X3_requestAt (l : Launch) (D : va_G) (cy : Nat → ClassId) (aN : Nat → Nat → Nat) (v1 : FV) (v2 : FV) (G : (Nat → FV)) (v3 : FV) (p1 : Int32) (p2 : Int32) (r : Int32) (hc : f_X3_requestAt v1 v2 G v3 p1 p2 = some r) : ConI l yX3_requestAt wsX3_requestAt 1 21 D cy (fun (u : FV × FV × (Nat → FV) × FV) => NW cy aN u.1 u.2.1 u.2.2.1 u.2.2.2) [.ref (aN 0 0), .int p1, .int p2] ((v1, v2, G, v3)) ((v1, v2, G, v3)) r := by
  refine bodyI (cc := cX3_requestAt) (maxL := 3) (ty := .int) (by decide +kernel) rfl (Nat.le_of_ble_eq_true rfl) ?_
  intro p e s m args below meth c A Q hx hb hml hts hown hK hP hD hA hS hend ls hl
  have hown : s.vm.findClass RX3 = some m.cls := hown
  have hP : va_P D vwCl (NW cy aN v1 v2 G v3) s.heap := hP
  have hD : va_D A (NW cy aN v1 v2 G v3) := hD
  have hl : lv_has ls 3 [(0, .ref (aN 0 0)), (1, .int p1), (2, .int p2)] := hl
  have hend : ∀ (H : Heap) (locs : List Loc) (pc : Nat) (ls : Array Slot) (v : Int32), v = r → narrow .int (.int v) = .int v → va_P D vwCl (NW cy aN v1 v2 G v3) H → va_D A (NW cy aN v1 v2 G v3) → va_S A s.heap H locs → decode cX3_requestAt pc = .ok (.ireturn, 1) → W p l e (RM 1 21) s m args below meth c H locs 0 0 Q (F0 m pc ls [.int v]) := fun H locs pc ls v h1 h3 h4 h5 h6 h7 => hend H locs pc ls v ((v1, v2, G, v3)) h1 rfl h3 h4 h5 h6 h7
  have fl_12 := hts (.fieldLink RX3 12 "NoonWells" "now" "LNoonWells$Field;") (by decide +kernel)
  have inw_X3 := (by decide +kernel : ∀ w ∈ u_ws RX3 TX3 4, w ∈ wsX3_requestAt)
  have inw_X0 := (by decide +kernel : ∀ w ∈ u_ws RX0 TX0 10, w ∈ wsX3_requestAt)
  obtain ⟨H, hHe⟩ : ∃ H : Heap, H = s.heap := ⟨_, rfl⟩
  obtain ⟨locs, hLe⟩ : ∃ x : List Loc, x = [] := ⟨_, rfl⟩
  have hP : va_P D vwCl (NW cy aN v1 v2 G v3) H := by rw [hHe]; exact hP
  have hS : va_S A s.heap H locs := by rw [hHe, hLe]; exact hS
  have goal0 : W p l e (RM 1 21) s m args below meth c H locs 0 0 Q (F0 m 0 ls []) := by
    refine lv_aload_n hx hb dX3_requestAt_0 rfl (lv_at hl 0 rfl) ?_
    refine va_get (ci := 3) (v := .ref (aN 1 0)) (C := RX3) (T := TX3) (N := 4) hx hb hts inw_X3 hown hK.1 hP 0 rfl rfl 0 (by decide) fl_12 (fun _ h9 => h9) rfl dX3_requestAt_1 ?_
    refine lv_iload_n hx hb dX3_requestAt_4 rfl (lv_at hl 1 rfl) ?_
    obtain ⟨x1, hc1, hc⟩ := b1_some hc
    refine gc_VI (n := 1) (q0 := 0) (ci := 0) (w' := NW cy aN v1 v2 G v3) hx hb hml hown hts hK hP hD hS hA hl.1 ⟨Nat.le_refl _, Nat.le_refl _⟩ (C_X0_isPlace l D cy (aN 1) v1 p1 x1 hc1) gX3_requestAt_X0_isPlace rfl (by decide +kernel) rfl ⟨by decide, by decide⟩ (Jn.perm NW_now NW_now) rfl rfl rfl (Nat.le_of_ble_eq_true rfl) dX3_requestAt_5 (fun H locs hP hD hS => ?_)
    refine lv_if_eq (tgt := 20) hx hb dX3_requestAt_8 (by decide) (fun c2 => ?_) (fun c2 => ?_)
    · replace hc := ite_t c2 hc
      refine lv_iconst (v := (-1)) hx hb dX3_requestAt_20 (by decide) ?_
      exact hend H locs _ _ _ (some_one hc) rfl hP hD hS dX3_requestAt_21
    · replace hc := ite_f c2 hc
      refine lv_iload_n hx hb dX3_requestAt_11 rfl (lv_at hl 2 rfl) ?_
      refine lv_if_lt (tgt := 20) hx hb dX3_requestAt_12 (by decide) (fun c3 => ?_) (fun c3 => ?_)
      · replace hc := ite_t c3 hc
        refine lv_iconst (v := (-1)) hx hb dX3_requestAt_20 (by decide) ?_
        exact hend H locs _ _ _ (some_one hc) rfl hP hD hS dX3_requestAt_21
      · replace hc := ite_f c3 hc
        refine lv_iload_n hx hb dX3_requestAt_15 rfl (lv_at hl 2 rfl) ?_
        refine lv_iconst (v := 3) hx hb dX3_requestAt_16 (by decide) ?_
        refine lv_icmp_lt (tgt := 22) hx hb dX3_requestAt_17 (by decide) (fun c4 => ?_) (fun c4 => ?_)
        · replace hc := ite_t c4 hc
          refine lv_aload_n hx hb dX3_requestAt_22 rfl (lv_at hl 0 rfl) ?_
          refine va_get (ci := 3) (v := .ref (aN 1 0)) (C := RX3) (T := TX3) (N := 4) hx hb hts inw_X3 hown hK.1 hP 0 rfl rfl 0 (by decide) fl_12 (fun _ h9 => h9) rfl dX3_requestAt_23 ?_
          refine va_getN (ci := 0) (v := .ref (aN 1 3)) (C := RX0) (T := TX0) (N := 10) hx hb hts inw_X0 hown hK.1 hP 1 rfl rfl 2 (by decide) (va_Nw.use rfl (hK.2 (.fieldLinkNest "NoonWells" 87 "NoonWells$Field" "requests" "[[I" "NoonWells") (by decide +kernel))) (fun _ h9 => h9) rfl dX3_requestAt_26 ?_
          refine lv_iload_n hx hb dX3_requestAt_29 rfl (lv_at hl 2 rfl) ?_
          obtain ⟨j5, hi5, hj5, hn5, hc⟩ := ix_some hc
          refine g_aald (v := aN 1 (22 + j5)) hx hb hK hP 4 rfl hi5 (by rw [hj5]; exact if_pos hn5) dX3_requestAt_30 ?_
          refine lv_iload_n hx hb dX3_requestAt_31 rfl (lv_at hl 1 rfl) ?_
          refine lv_iconst (v := 1) hx hb dX3_requestAt_32 (by decide) ?_
          refine lv_isub hx hb dX3_requestAt_33 ?_
          obtain ⟨x6, hi6, hv6, hc⟩ := rd_some hc
          refine g_iald (x := x6) hx hb hK hP (1 + (22 + j5)) (NW_req hn5) hi6 hv6 dX3_requestAt_34 ?_
          exact hend H locs _ _ _ (some_one hc) rfl hP hD hS dX3_requestAt_35
        · replace hc := ite_f c4 hc
          refine lv_iconst (v := (-1)) hx hb dX3_requestAt_20 (by decide) ?_
          exact hend H locs _ _ _ (some_one hc) rfl hP hD hS dX3_requestAt_21
  rw [hHe, hLe] at goal0
  exact goal0
set_option maxHeartbeats 4000000 in
set_option maxRecDepth 100000 in
theorem C_X3_count (l : Launch) (D : va_G) (cy : Nat → ClassId) (aN : Nat → Nat → Nat) (v1 : FV) (v2 : FV) (G : (Nat → FV)) (v3 : FV) (p1 : Int32) (r : Int32) (hc : f_X3_count v1 v2 G v3 p1 = some r) : ConI l yX3_count wsX3_count 1 23 D cy (fun (u : FV × FV × (Nat → FV) × FV) => NW cy aN u.1 u.2.1 u.2.2.1 u.2.2.2) [.ref (aN 0 0), .int p1] ((v1, v2, G, v3)) ((v1, v2, G, v3)) r := by
  refine bodyI (cc := cX3_count) (maxL := 2) (ty := .int) (by decide +kernel) rfl (Nat.le_of_ble_eq_true rfl) ?_
  intro p e s m args below meth c A Q hx hb hml hts hown hK hP hD hA hS hend ls hl
  have hown : s.vm.findClass RX3 = some m.cls := hown
  have hP : va_P D vwCl (NW cy aN v1 v2 G v3) s.heap := hP
  have hD : va_D A (NW cy aN v1 v2 G v3) := hD
  have hl : lv_has ls 2 [(0, .ref (aN 0 0)), (1, .int p1)] := hl
  have hend : ∀ (H : Heap) (locs : List Loc) (pc : Nat) (ls : Array Slot) (v : Int32), v = r → narrow .int (.int v) = .int v → va_P D vwCl (NW cy aN v1 v2 G v3) H → va_D A (NW cy aN v1 v2 G v3) → va_S A s.heap H locs → decode cX3_count pc = .ok (.ireturn, 1) → W p l e (RM 1 23) s m args below meth c H locs 0 0 Q (F0 m pc ls [.int v]) := fun H locs pc ls v h1 h3 h4 h5 h6 h7 => hend H locs pc ls v ((v1, v2, G, v3)) h1 rfl h3 h4 h5 h6 h7
  have fl_12 := hts (.fieldLink RX3 12 "NoonWells" "now" "LNoonWells$Field;") (by decide +kernel)
  have inw_X3 := (by decide +kernel : ∀ w ∈ u_ws RX3 TX3 4, w ∈ wsX3_count)
  have inw_X0 := (by decide +kernel : ∀ w ∈ u_ws RX0 TX0 10, w ∈ wsX3_count)
  have fl_22 := hts (.fieldLink RX3 22 "NoonWells" "history" "LNoonWells$History;") (by decide +kernel)
  have inw_X1 := (by decide +kernel : ∀ w ∈ u_ws RX1 TX1 3, w ∈ wsX3_count)
  have fl_29 := hts (.fieldLink RX3 29 "NoonWells" "script" "LNoonWells$Script;") (by decide +kernel)
  have inw_X2 := (by decide +kernel : ∀ w ∈ u_ws RX2 TX2 7, w ∈ wsX3_count)
  obtain ⟨H, hHe⟩ : ∃ H : Heap, H = s.heap := ⟨_, rfl⟩
  obtain ⟨locs, hLe⟩ : ∃ x : List Loc, x = [] := ⟨_, rfl⟩
  have hP : va_P D vwCl (NW cy aN v1 v2 G v3) H := by rw [hHe]; exact hP
  have hS : va_S A s.heap H locs := by rw [hHe, hLe]; exact hS
  have goal0 : W p l e (RM 1 23) s m args below meth c H locs 0 0 Q (F0 m 0 ls []) := by
    refine lv_iload_n hx hb dX3_count_0 rfl (lv_at hl 1 rfl) ?_
    by_cases c1 : p1 = 0
    · replace hc := ite_t c1 hc
      refine lv_tableIn (off := 103) (tgt := 104) hx hb dX3_count_1 (by rw [c1]; decide) (by rw [c1]; decide) (by rw [c1]; rfl) (by decide) ?_
      refine lv_aload_n hx hb dX3_count_104 rfl (lv_at hl 0 rfl) ?_
      refine va_get (ci := 3) (v := .ref (aN 1 0)) (C := RX3) (T := TX3) (N := 4) hx hb hts inw_X3 hown hK.1 hP 0 rfl rfl 0 (by decide) fl_12 (fun _ h9 => h9) rfl dX3_count_105 ?_
      refine va_getN (ci := 0) (v := .int (v1 0 0)) (C := RX0) (T := TX0) (N := 10) hx hb hts inw_X0 hown hK.1 hP 1 rfl rfl 5 (by decide) (va_Nw.use rfl (hK.2 (.fieldLinkNest "NoonWells" 116 "NoonWells$Field" "wellCount" "I" "NoonWells") (by decide +kernel))) (fun _ h9 => h9) rfl dX3_count_108 ?_
      exact hend H locs _ _ _ (some_one hc) rfl hP hD hS dX3_count_111
    replace hc := ite_f c1 hc
    by_cases c2 : p1 = 1
    · replace hc := ite_t c2 hc
      refine lv_tableIn (off := 111) (tgt := 112) hx hb dX3_count_1 (by rw [c2]; decide) (by rw [c2]; decide) (by rw [c2]; rfl) (by decide) ?_
      refine lv_aload_n hx hb dX3_count_112 rfl (lv_at hl 0 rfl) ?_
      refine va_get (ci := 3) (v := .ref (aN 1 0)) (C := RX3) (T := TX3) (N := 4) hx hb hts inw_X3 hown hK.1 hP 0 rfl rfl 0 (by decide) fl_12 (fun _ h9 => h9) rfl dX3_count_113 ?_
      refine va_getN (ci := 0) (v := .int (v1 0 1)) (C := RX0) (T := TX0) (N := 10) hx hb hts inw_X0 hown hK.1 hP 1 rfl rfl 6 (by decide) (va_Nw.use rfl (hK.2 (.fieldLinkNest "NoonWells" 49 "NoonWells$Field" "droughtCount" "I" "NoonWells") (by decide +kernel))) (fun _ h9 => h9) rfl dX3_count_116 ?_
      exact hend H locs _ _ _ (some_one hc) rfl hP hD hS dX3_count_119
    replace hc := ite_f c2 hc
    by_cases c3 : p1 = 2
    · replace hc := ite_t c3 hc
      refine lv_tableIn (off := 119) (tgt := 120) hx hb dX3_count_1 (by rw [c3]; decide) (by rw [c3]; decide) (by rw [c3]; rfl) (by decide) ?_
      refine lv_aload_n hx hb dX3_count_120 rfl (lv_at hl 0 rfl) ?_
      refine va_get (ci := 3) (v := .ref (aN 1 0)) (C := RX3) (T := TX3) (N := 4) hx hb hts inw_X3 hown hK.1 hP 0 rfl rfl 0 (by decide) fl_12 (fun _ h9 => h9) rfl dX3_count_121 ?_
      refine va_getN (ci := 0) (v := .int (v1 0 3)) (C := RX0) (T := TX0) (N := 10) hx hb hts inw_X0 hown hK.1 hP 1 rfl rfl 8 (by decide) (va_Nw.use rfl (hK.2 (.fieldLinkNest "NoonWells" 61 "NoonWells$Field" "time" "I" "NoonWells") (by decide +kernel))) (fun _ h9 => h9) rfl dX3_count_124 ?_
      exact hend H locs _ _ _ (some_one hc) rfl hP hD hS dX3_count_127
    replace hc := ite_f c3 hc
    by_cases c4 : p1 = 3
    · replace hc := ite_t c4 hc
      refine lv_tableIn (off := 127) (tgt := 128) hx hb dX3_count_1 (by rw [c4]; decide) (by rw [c4]; decide) (by rw [c4]; rfl) (by decide) ?_
      refine lv_aload_n hx hb dX3_count_128 rfl (lv_at hl 0 rfl) ?_
      refine va_get (ci := 3) (v := .ref (aN 1 0)) (C := RX3) (T := TX3) (N := 4) hx hb hts inw_X3 hown hK.1 hP 0 rfl rfl 0 (by decide) fl_12 (fun _ h9 => h9) rfl dX3_count_129 ?_
      refine lv_iconst (v := 4) hx hb dX3_count_132 (by decide) ?_
      obtain ⟨x5, hc5, hc⟩ := b1_some hc
      refine gc_VI (n := 1) (q0 := 0) (ci := 0) (w' := NW cy aN v1 v2 G v3) hx hb hml hown hts hK hP hD hS hA hl.1 ⟨Nat.le_refl _, Nat.le_refl _⟩ (C_X0_sumOf l D cy (aN 1) v1 4 x5 hc5) gX3_count_X0_sumOf rfl (by decide +kernel) rfl ⟨by decide, by decide⟩ (Jn.perm NW_now NW_now) rfl rfl rfl (Nat.le_of_ble_eq_true rfl) dX3_count_133 (fun H locs hP hD hS => ?_)
      exact hend H locs _ _ _ (some_one hc) rfl hP hD hS dX3_count_136
    replace hc := ite_f c4 hc
    by_cases c6 : p1 = 4
    · replace hc := ite_t c6 hc
      refine lv_tableIn (off := 136) (tgt := 137) hx hb dX3_count_1 (by rw [c6]; decide) (by rw [c6]; decide) (by rw [c6]; rfl) (by decide) ?_
      refine lv_aload_n hx hb dX3_count_137 rfl (lv_at hl 0 rfl) ?_
      refine va_get (ci := 3) (v := .ref (aN 1 0)) (C := RX3) (T := TX3) (N := 4) hx hb hts inw_X3 hown hK.1 hP 0 rfl rfl 0 (by decide) fl_12 (fun _ h9 => h9) rfl dX3_count_138 ?_
      refine lv_bipush (v := 6) hx hb dX3_count_141 (by decide +kernel) ?_
      obtain ⟨x7, hc7, hc⟩ := b1_some hc
      refine gc_VI (n := 1) (q0 := 0) (ci := 0) (w' := NW cy aN v1 v2 G v3) hx hb hml hown hts hK hP hD hS hA hl.1 ⟨Nat.le_refl _, Nat.le_refl _⟩ (C_X0_sumOf l D cy (aN 1) v1 6 x7 hc7) gX3_count_X0_sumOf rfl (by decide +kernel) rfl ⟨by decide, by decide⟩ (Jn.perm NW_now NW_now) rfl rfl rfl (Nat.le_of_ble_eq_true rfl) dX3_count_143 (fun H locs hP hD hS => ?_)
      exact hend H locs _ _ _ (some_one hc) rfl hP hD hS dX3_count_146
    replace hc := ite_f c6 hc
    by_cases c8 : p1 = 5
    · replace hc := ite_t c8 hc
      refine lv_tableIn (off := 146) (tgt := 147) hx hb dX3_count_1 (by rw [c8]; decide) (by rw [c8]; decide) (by rw [c8]; rfl) (by decide) ?_
      refine lv_aload_n hx hb dX3_count_147 rfl (lv_at hl 0 rfl) ?_
      refine va_get (ci := 3) (v := .ref (aN 1 0)) (C := RX3) (T := TX3) (N := 4) hx hb hts inw_X3 hown hK.1 hP 0 rfl rfl 0 (by decide) fl_12 (fun _ h9 => h9) rfl dX3_count_148 ?_
      refine lv_bipush (v := 7) hx hb dX3_count_151 (by decide +kernel) ?_
      obtain ⟨x9, hc9, hc⟩ := b1_some hc
      refine gc_VI (n := 1) (q0 := 0) (ci := 0) (w' := NW cy aN v1 v2 G v3) hx hb hml hown hts hK hP hD hS hA hl.1 ⟨Nat.le_refl _, Nat.le_refl _⟩ (C_X0_sumOf l D cy (aN 1) v1 7 x9 hc9) gX3_count_X0_sumOf rfl (by decide +kernel) rfl ⟨by decide, by decide⟩ (Jn.perm NW_now NW_now) rfl rfl rfl (Nat.le_of_ble_eq_true rfl) dX3_count_153 (fun H locs hP hD hS => ?_)
      exact hend H locs _ _ _ (some_one hc) rfl hP hD hS dX3_count_156
    replace hc := ite_f c8 hc
    by_cases c10 : p1 = 6
    · replace hc := ite_t c10 hc
      refine lv_tableIn (off := 156) (tgt := 157) hx hb dX3_count_1 (by rw [c10]; decide) (by rw [c10]; decide) (by rw [c10]; rfl) (by decide) ?_
      refine lv_aload_n hx hb dX3_count_157 rfl (lv_at hl 0 rfl) ?_
      refine va_get (ci := 3) (v := .ref (aN 1 0)) (C := RX3) (T := TX3) (N := 4) hx hb hts inw_X3 hown hK.1 hP 0 rfl rfl 0 (by decide) fl_12 (fun _ h9 => h9) rfl dX3_count_158 ?_
      refine lv_bipush (v := 8) hx hb dX3_count_161 (by decide +kernel) ?_
      obtain ⟨x11, hc11, hc⟩ := b1_some hc
      refine gc_VI (n := 1) (q0 := 0) (ci := 0) (w' := NW cy aN v1 v2 G v3) hx hb hml hown hts hK hP hD hS hA hl.1 ⟨Nat.le_refl _, Nat.le_refl _⟩ (C_X0_sumOf l D cy (aN 1) v1 8 x11 hc11) gX3_count_X0_sumOf rfl (by decide +kernel) rfl ⟨by decide, by decide⟩ (Jn.perm NW_now NW_now) rfl rfl rfl (Nat.le_of_ble_eq_true rfl) dX3_count_163 (fun H locs hP hD hS => ?_)
      refine lv_aload_n hx hb dX3_count_166 rfl (lv_at hl 0 rfl) ?_
      refine va_get (ci := 3) (v := .ref (aN 1 0)) (C := RX3) (T := TX3) (N := 4) hx hb hts inw_X3 hown hK.1 hP 0 rfl rfl 0 (by decide) fl_12 (fun _ h9 => h9) rfl dX3_count_167 ?_
      refine lv_bipush (v := 9) hx hb dX3_count_170 (by decide +kernel) ?_
      obtain ⟨x12, hc12, hc⟩ := b1_some hc
      refine gc_VI (n := 1) (q0 := 0) (ci := 0) (w' := NW cy aN v1 v2 G v3) hx hb hml hown hts hK hP hD hS hA hl.1 ⟨Nat.le_refl _, Nat.le_refl _⟩ (C_X0_sumOf l D cy (aN 1) v1 9 x12 hc12) gX3_count_X0_sumOf rfl (by decide +kernel) rfl ⟨by decide, by decide⟩ (Jn.perm NW_now NW_now) rfl rfl rfl (Nat.le_of_ble_eq_true rfl) dX3_count_172 (fun H locs hP hD hS => ?_)
      refine lv_iadd hx hb dX3_count_175 ?_
      exact hend H locs _ _ _ (some_one hc) rfl hP hD hS dX3_count_176
    replace hc := ite_f c10 hc
    by_cases c13 : p1 = 7
    · replace hc := ite_t c13 hc
      refine lv_tableIn (off := 176) (tgt := 177) hx hb dX3_count_1 (by rw [c13]; decide) (by rw [c13]; decide) (by rw [c13]; rfl) (by decide) ?_
      refine lv_aload_n hx hb dX3_count_177 rfl (lv_at hl 0 rfl) ?_
      refine va_get (ci := 3) (v := .ref (aN 1 0)) (C := RX3) (T := TX3) (N := 4) hx hb hts inw_X3 hown hK.1 hP 0 rfl rfl 0 (by decide) fl_12 (fun _ h9 => h9) rfl dX3_count_178 ?_
      refine lv_bipush (v := 10) hx hb dX3_count_181 (by decide +kernel) ?_
      obtain ⟨x14, hc14, hc⟩ := b1_some hc
      refine gc_VI (n := 1) (q0 := 0) (ci := 0) (w' := NW cy aN v1 v2 G v3) hx hb hml hown hts hK hP hD hS hA hl.1 ⟨Nat.le_refl _, Nat.le_refl _⟩ (C_X0_sumOf l D cy (aN 1) v1 10 x14 hc14) gX3_count_X0_sumOf rfl (by decide +kernel) rfl ⟨by decide, by decide⟩ (Jn.perm NW_now NW_now) rfl rfl rfl (Nat.le_of_ble_eq_true rfl) dX3_count_183 (fun H locs hP hD hS => ?_)
      exact hend H locs _ _ _ (some_one hc) rfl hP hD hS dX3_count_186
    replace hc := ite_f c13 hc
    by_cases c15 : p1 = 8
    · replace hc := ite_t c15 hc
      refine lv_tableIn (off := 186) (tgt := 187) hx hb dX3_count_1 (by rw [c15]; decide) (by rw [c15]; decide) (by rw [c15]; rfl) (by decide) ?_
      refine lv_aload_n hx hb dX3_count_187 rfl (lv_at hl 0 rfl) ?_
      refine va_get (ci := 3) (v := .ref (aN 1 0)) (C := RX3) (T := TX3) (N := 4) hx hb hts inw_X3 hown hK.1 hP 0 rfl rfl 0 (by decide) fl_12 (fun _ h9 => h9) rfl dX3_count_188 ?_
      refine lv_bipush (v := 11) hx hb dX3_count_191 (by decide +kernel) ?_
      obtain ⟨x16, hc16, hc⟩ := b1_some hc
      refine gc_VI (n := 1) (q0 := 0) (ci := 0) (w' := NW cy aN v1 v2 G v3) hx hb hml hown hts hK hP hD hS hA hl.1 ⟨Nat.le_refl _, Nat.le_refl _⟩ (C_X0_sumOf l D cy (aN 1) v1 11 x16 hc16) gX3_count_X0_sumOf rfl (by decide +kernel) rfl ⟨by decide, by decide⟩ (Jn.perm NW_now NW_now) rfl rfl rfl (Nat.le_of_ble_eq_true rfl) dX3_count_193 (fun H locs hP hD hS => ?_)
      exact hend H locs _ _ _ (some_one hc) rfl hP hD hS dX3_count_196
    replace hc := ite_f c15 hc
    by_cases c17 : p1 = 9
    · replace hc := ite_t c17 hc
      refine lv_tableIn (off := 196) (tgt := 197) hx hb dX3_count_1 (by rw [c17]; decide) (by rw [c17]; decide) (by rw [c17]; rfl) (by decide) ?_
      refine lv_aload_n hx hb dX3_count_197 rfl (lv_at hl 0 rfl) ?_
      refine va_get (ci := 3) (v := .ref (aN 1 0)) (C := RX3) (T := TX3) (N := 4) hx hb hts inw_X3 hown hK.1 hP 0 rfl rfl 0 (by decide) fl_12 (fun _ h9 => h9) rfl dX3_count_198 ?_
      refine lv_iconst (v := 5) hx hb dX3_count_201 (by decide) ?_
      obtain ⟨x18, hc18, hc⟩ := b1_some hc
      refine gc_VI (n := 1) (q0 := 0) (ci := 0) (w' := NW cy aN v1 v2 G v3) hx hb hml hown hts hK hP hD hS hA hl.1 ⟨Nat.le_refl _, Nat.le_refl _⟩ (C_X0_sumOf l D cy (aN 1) v1 5 x18 hc18) gX3_count_X0_sumOf rfl (by decide +kernel) rfl ⟨by decide, by decide⟩ (Jn.perm NW_now NW_now) rfl rfl rfl (Nat.le_of_ble_eq_true rfl) dX3_count_202 (fun H locs hP hD hS => ?_)
      exact hend H locs _ _ _ (some_one hc) rfl hP hD hS dX3_count_205
    replace hc := ite_f c17 hc
    by_cases c19 : p1 = 10
    · replace hc := ite_t c19 hc
      refine lv_tableIn (off := 205) (tgt := 206) hx hb dX3_count_1 (by rw [c19]; decide) (by rw [c19]; decide) (by rw [c19]; rfl) (by decide) ?_
      refine lv_aload_n hx hb dX3_count_206 rfl (lv_at hl 0 rfl) ?_
      refine va_get (ci := 3) (v := .ref (aN 1 0)) (C := RX3) (T := TX3) (N := 4) hx hb hts inw_X3 hown hK.1 hP 0 rfl rfl 0 (by decide) fl_12 (fun _ h9 => h9) rfl dX3_count_207 ?_
      refine va_getN (ci := 0) (v := .int (v1 0 2)) (C := RX0) (T := TX0) (N := 10) hx hb hts inw_X0 hown hK.1 hP 1 rfl rfl 7 (by decide) (va_Nw.use rfl (hK.2 (.fieldLinkNest "NoonWells" 122 "NoonWells$Field" "waiting" "I" "NoonWells") (by decide +kernel))) (fun _ h9 => h9) rfl dX3_count_210 ?_
      exact hend H locs _ _ _ (some_one hc) rfl hP hD hS dX3_count_213
    replace hc := ite_f c19 hc
    by_cases c20 : p1 = 11
    · replace hc := ite_t c20 hc
      refine lv_tableIn (off := 213) (tgt := 214) hx hb dX3_count_1 (by rw [c20]; decide) (by rw [c20]; decide) (by rw [c20]; rfl) (by decide) ?_
      refine lv_aload_n hx hb dX3_count_214 rfl (lv_at hl 0 rfl) ?_
      refine va_get (ci := 3) (v := .ref (aN 1 0)) (C := RX3) (T := TX3) (N := 4) hx hb hts inw_X3 hown hK.1 hP 0 rfl rfl 0 (by decide) fl_12 (fun _ h9 => h9) rfl dX3_count_215 ?_
      refine va_getN (ci := 0) (v := .int (v1 0 4)) (C := RX0) (T := TX0) (N := 10) hx hb hts inw_X0 hown hK.1 hP 1 rfl rfl 9 (by decide) (va_Nw.use rfl (hK.2 (.fieldLinkNest "NoonWells" 125 "NoonWells$Field" "drawnBehindWaiting" "I" "NoonWells") (by decide +kernel))) (fun _ h9 => h9) rfl dX3_count_218 ?_
      exact hend H locs _ _ _ (some_one hc) rfl hP hD hS dX3_count_221
    replace hc := ite_f c20 hc
    by_cases c21 : p1 = 12
    · replace hc := ite_t c21 hc
      refine lv_tableIn (off := 221) (tgt := 222) hx hb dX3_count_1 (by rw [c21]; decide) (by rw [c21]; decide) (by rw [c21]; rfl) (by decide) ?_
      refine lv_aload_n hx hb dX3_count_222 rfl (lv_at hl 0 rfl) ?_
      refine va_get (ci := 3) (v := .ref (aN 1 0)) (C := RX3) (T := TX3) (N := 4) hx hb hts inw_X3 hown hK.1 hP 0 rfl rfl 0 (by decide) fl_12 (fun _ h9 => h9) rfl dX3_count_223 ?_
      refine va_getN (ci := 0) (v := .ref (aN 1 4)) (C := RX0) (T := TX0) (N := 10) hx hb hts inw_X0 hown hK.1 hP 1 rfl rfl 3 (by decide) (va_Nw.use rfl (hK.2 (.fieldLinkNest "NoonWells" 128 "NoonWells$Field" "settings" "[I" "NoonWells") (by decide +kernel))) (fun _ h9 => h9) rfl dX3_count_226 ?_
      refine lv_iconst (v := 0) hx hb dX3_count_229 (by decide) ?_
      refine g_iald (x := v1 4 0) hx hb hK hP 5 rfl (vp_lit (by decide)) rfl dX3_count_230 ?_
      refine lv_aload_n hx hb dX3_count_231 rfl (lv_at hl 0 rfl) ?_
      refine va_get (ci := 3) (v := .ref (aN 1 0)) (C := RX3) (T := TX3) (N := 4) hx hb hts inw_X3 hown hK.1 hP 0 rfl rfl 0 (by decide) fl_12 (fun _ h9 => h9) rfl dX3_count_232 ?_
      obtain ⟨x22, hc22, hc⟩ := b1_some hc
      refine gc_VI (n := 0) (q0 := 0) (ci := 0) (w' := NW cy aN v1 v2 G v3) hx hb hml hown hts hK hP hD hS hA hl.1 ⟨Nat.le_refl _, Nat.le_refl _⟩ (C_X0_timeOfDay l D cy (aN 1) v1 x22 hc22) gX3_count_X0_timeOfDay rfl (by decide +kernel) rfl ⟨by decide, by decide⟩ (Jn.perm NW_now NW_now) rfl rfl rfl (Nat.le_of_ble_eq_true rfl) dX3_count_235 (fun H locs hP hD hS => ?_)
      refine lv_isub hx hb dX3_count_238 ?_
      exact hend H locs _ _ _ (some_one hc) rfl hP hD hS dX3_count_239
    replace hc := ite_f c21 hc
    by_cases c23 : p1 = 13
    · replace hc := ite_t c23 hc
      refine lv_tableIn (off := 239) (tgt := 240) hx hb dX3_count_1 (by rw [c23]; decide) (by rw [c23]; decide) (by rw [c23]; rfl) (by decide) ?_
      refine lv_aload_n hx hb dX3_count_240 rfl (lv_at hl 0 rfl) ?_
      refine va_get (ci := 3) (v := .ref (aN 4 0)) (C := RX3) (T := TX3) (N := 4) hx hb hts inw_X3 hown hK.1 hP 0 rfl rfl 2 (by decide) fl_22 (fun _ h9 => h9) rfl dX3_count_241 ?_
      refine va_getN (ci := 1) (v := .int (G 0 0 1)) (C := RX1) (T := TX1) (N := 3) hx hb hts inw_X1 hown hK.1 hP 54 rfl rfl 2 (by decide) (va_Nw.use rfl (hK.2 (.fieldLinkNest "NoonWells" 134 "NoonWells$History" "size" "I" "NoonWells") (by decide +kernel))) (fun _ h9 => h9) rfl dX3_count_244 ?_
      exact hend H locs _ _ _ (some_one hc) rfl hP hD hS dX3_count_247
    replace hc := ite_f c23 hc
    by_cases c24 : p1 = 14
    · replace hc := ite_t c24 hc
      refine lv_tableIn (off := 247) (tgt := 248) hx hb dX3_count_1 (by rw [c24]; decide) (by rw [c24]; decide) (by rw [c24]; rfl) (by decide) ?_
      refine lv_aload_n hx hb dX3_count_248 rfl (lv_at hl 0 rfl) ?_
      refine va_get (ci := 3) (v := .ref (aN 3 0)) (C := RX3) (T := TX3) (N := 4) hx hb hts inw_X3 hown hK.1 hP 0 rfl rfl 3 (by decide) fl_29 (fun _ h9 => h9) rfl dX3_count_249 ?_
      refine va_getN (ci := 2) (v := .int (v3 0 0)) (C := RX2) (T := TX2) (N := 7) hx hb hts inw_X2 hown hK.1 hP 51 rfl rfl 2 (by decide) (va_Nw.use rfl (hK.2 (.fieldLinkNest "NoonWells" 137 "NoonWells$Script" "length" "I" "NoonWells") (by decide +kernel))) (fun _ h9 => h9) rfl dX3_count_252 ?_
      exact hend H locs _ _ _ (some_one hc) rfl hP hD hS dX3_count_255
    replace hc := ite_f c24 hc
    by_cases c25 : p1 = 20
    · replace hc := ite_t c25 hc
      refine lv_tableIn (off := 255) (tgt := 256) hx hb dX3_count_1 (by rw [c25]; decide) (by rw [c25]; decide) (by rw [c25]; rfl) (by decide) ?_
      refine lv_aload_n hx hb dX3_count_256 rfl (lv_at hl 0 rfl) ?_
      refine va_get (ci := 3) (v := .ref (aN 1 0)) (C := RX3) (T := TX3) (N := 4) hx hb hts inw_X3 hown hK.1 hP 0 rfl rfl 0 (by decide) fl_12 (fun _ h9 => h9) rfl dX3_count_257 ?_
      refine va_getN (ci := 0) (v := .ref (aN 1 4)) (C := RX0) (T := TX0) (N := 10) hx hb hts inw_X0 hown hK.1 hP 1 rfl rfl 3 (by decide) (va_Nw.use rfl (hK.2 (.fieldLinkNest "NoonWells" 128 "NoonWells$Field" "settings" "[I" "NoonWells") (by decide +kernel))) (fun _ h9 => h9) rfl dX3_count_260 ?_
      refine lv_iconst (v := 0) hx hb dX3_count_263 (by decide) ?_
      refine g_iald (x := v1 4 0) hx hb hK hP 5 rfl (vp_lit (by decide)) rfl dX3_count_264 ?_
      exact hend H locs _ _ _ (some_one hc) rfl hP hD hS dX3_count_265
    replace hc := ite_f c25 hc
    by_cases c26 : p1 = 21
    · replace hc := ite_t c26 hc
      refine lv_tableIn (off := 265) (tgt := 266) hx hb dX3_count_1 (by rw [c26]; decide) (by rw [c26]; decide) (by rw [c26]; rfl) (by decide) ?_
      refine lv_aload_n hx hb dX3_count_266 rfl (lv_at hl 0 rfl) ?_
      refine va_get (ci := 3) (v := .ref (aN 1 0)) (C := RX3) (T := TX3) (N := 4) hx hb hts inw_X3 hown hK.1 hP 0 rfl rfl 0 (by decide) fl_12 (fun _ h9 => h9) rfl dX3_count_267 ?_
      refine va_getN (ci := 0) (v := .ref (aN 1 4)) (C := RX0) (T := TX0) (N := 10) hx hb hts inw_X0 hown hK.1 hP 1 rfl rfl 3 (by decide) (va_Nw.use rfl (hK.2 (.fieldLinkNest "NoonWells" 128 "NoonWells$Field" "settings" "[I" "NoonWells") (by decide +kernel))) (fun _ h9 => h9) rfl dX3_count_270 ?_
      refine lv_iconst (v := 1) hx hb dX3_count_273 (by decide) ?_
      refine g_iald (x := v1 4 1) hx hb hK hP 5 rfl (vp_lit (by decide)) rfl dX3_count_274 ?_
      exact hend H locs _ _ _ (some_one hc) rfl hP hD hS dX3_count_275
    replace hc := ite_f c26 hc
    rcases sw_count c1 c2 c3 c4 c6 c8 c10 c13 c15 c17 c19 c20 c21 c23 c24 c25 c26 with h27 | ⟨o27, h27⟩
    · refine lv_tableOut (tgt := 276) hx hb dX3_count_1 h27 (by decide) ?_
      refine lv_iconst (v := (-1)) hx hb dX3_count_276 (by decide) ?_
      exact hend H locs _ _ _ (some_one hc) rfl hP hD hS dX3_count_277
    · refine lv_tableIn (off := 275) (tgt := 276) hx hb dX3_count_1 h27.1 h27.2.1 (by rw [h27.2.2.1]; rcases h27.2.2.2 with h9 | h9 | h9 | h9 | h9 <;> rw [h9] <;> rfl) (by decide) ?_
      refine lv_iconst (v := (-1)) hx hb dX3_count_276 (by decide) ?_
      exact hend H locs _ _ _ (some_one hc) rfl hP hD hS dX3_count_277
  rw [hHe, hLe] at goal0
  exact goal0
set_option maxHeartbeats 4000000 in
set_option maxRecDepth 100000 in
theorem C_X3_keepIfDone (l : Launch) (D : va_G) (cy : Nat → ClassId) (aN : Nat → Nat → Nat) (v1 : FV) (v2 : FV) (G : (Nat → FV)) (v3 : FV) (p1 : Int32) (r : Int32) (v1' : FV) (v2' : FV) (G' : (Nat → FV)) (v3' : FV) (hc : f_X3_keepIfDone v1 v2 G v3 p1 = some (r, (v1', v2', G', v3'))) : ConI l yX3_keepIfDone wsX3_keepIfDone 1 20 D cy (fun (u : FV × FV × (Nat → FV) × FV) => NW cy aN u.1 u.2.1 u.2.2.1 u.2.2.2) [.ref (aN 0 0), .int p1] ((v1, v2, G, v3)) ((v1', v2', G', v3')) r := by
  refine bodyI (cc := cX3_keepIfDone) (maxL := 2) (ty := .int) (by decide +kernel) rfl (Nat.le_of_ble_eq_true rfl) ?_
  intro p e s m args below meth c A Q hx hb hml hts hown hK hP hD hA hS hend ls hl
  have hown : s.vm.findClass RX3 = some m.cls := hown
  have hP : va_P D vwCl (NW cy aN v1 v2 G v3) s.heap := hP
  have hD : va_D A (NW cy aN v1 v2 G v3) := hD
  have hl : lv_has ls 2 [(0, .ref (aN 0 0)), (1, .int p1)] := hl
  have hend : ∀ (H : Heap) (locs : List Loc) (pc : Nat) (ls : Array Slot) (v : Int32) (v1 : FV) (v2 : FV) (G : (Nat → FV)) (v3 : FV), v = r → (v1, v2, G, v3) = (v1', v2', G', v3') → narrow .int (.int v) = .int v → va_P D vwCl (NW cy aN v1 v2 G v3) H → va_D A (NW cy aN v1 v2 G v3) → va_S A s.heap H locs → decode cX3_keepIfDone pc = .ok (.ireturn, 1) → W p l e (RM 1 20) s m args below meth c H locs 0 0 Q (F0 m pc ls [.int v]) := fun H locs pc ls v v1 v2 G v3 h1 h2 h3 h4 h5 h6 h7 => hend H locs pc ls v ((v1, v2, G, v3)) h1 h2 h3 h4 h5 h6 h7
  have fl_22 := hts (.fieldLink RX3 22 "NoonWells" "history" "LNoonWells$History;") (by decide +kernel)
  have inw_X3 := (by decide +kernel : ∀ w ∈ u_ws RX3 TX3 4, w ∈ wsX3_keepIfDone)
  obtain ⟨H, hHe⟩ : ∃ H : Heap, H = s.heap := ⟨_, rfl⟩
  obtain ⟨locs, hLe⟩ : ∃ x : List Loc, x = [] := ⟨_, rfl⟩
  have hP : va_P D vwCl (NW cy aN v1 v2 G v3) H := by rw [hHe]; exact hP
  have hS : va_S A s.heap H locs := by rw [hHe, hLe]; exact hS
  have goal0 : W p l e (RM 1 20) s m args below meth c H locs 0 0 Q (F0 m 0 ls []) := by
    refine lv_iload_n hx hb dX3_keepIfDone_0 rfl (lv_at hl 1 rfl) ?_
    refine lv_if_lt (tgt := 11) hx hb dX3_keepIfDone_1 (by decide) (fun c1 => ?_) (fun c1 => ?_)
    · replace hc := ite_t c1 hc
      refine lv_iload_n hx hb dX3_keepIfDone_11 rfl (lv_at hl 1 rfl) ?_
      exact hend H locs _ _ _ _ _ _ _ (some_fst hc) (some_snd hc) rfl hP hD hS dX3_keepIfDone_12
    · replace hc := ite_f c1 hc
      refine lv_aload_n hx hb dX3_keepIfDone_4 rfl (lv_at hl 0 rfl) ?_
      refine va_get (ci := 3) (v := .ref (aN 4 0)) (C := RX3) (T := TX3) (N := 4) hx hb hts inw_X3 hown hK.1 hP 0 rfl rfl 2 (by decide) fl_22 (fun _ h9 => h9) rfl dX3_keepIfDone_5 ?_
      obtain ⟨G2, hc2, hc⟩ := b1_some hc
      refine gc_VV (n := 0) (q0 := 0) (ci := 1) (w' := NW cy aN v1 v2 G2 v3) hx hb hml hown hts hK hP hD hS hA hl.1 ⟨Nat.le_refl _, Nat.le_refl _⟩ (C_X1_keep l D cy ((fun i => aN (4 + i))) G G2 hc2) gX3_keepIfDone_X1_keep rfl (by decide +kernel) rfl ⟨by decide, by decide⟩ (Jn.perm NW_hist NW_hist) rfl rfl rfl (Nat.le_of_ble_eq_true rfl) dX3_keepIfDone_8 (fun H locs hP hD hS => ?_)
      refine lv_iload_n hx hb dX3_keepIfDone_11 rfl (lv_at hl 1 rfl) ?_
      exact hend H locs _ _ _ _ _ _ _ (some_fst hc) (some_snd hc) rfl hP hD hS dX3_keepIfDone_12
  rw [hHe, hLe] at goal0
  exact goal0
