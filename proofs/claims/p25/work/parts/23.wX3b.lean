set_option maxHeartbeats 4000000 in
set_option maxRecDepth 100000 in
theorem C_X3_well (l : Launch) (D : va_G) (cy : Nat → ClassId) (aN : Nat → Nat → Nat) (v1 : FV) (v2 : FV) (G : (Nat → FV)) (v3 : FV) (p1 : Int32) (p2 : Int32) (p3 : Int32) (p4 : Int32) (r : Int32) (v1' : FV) (v2' : FV) (G' : (Nat → FV)) (v3' : FV) (hc : f_X3_well v1 v2 G v3 p1 p2 p3 p4 = some (r, (v1', v2', G', v3'))) : ConI l yX3_well wsX3_well 4 165 D cy (fun (u : FV × FV × (Nat → FV) × FV) => NW cy aN u.1 u.2.1 u.2.2.1 u.2.2.2) [.ref (aN 0 0), .int p1, .int p2, .int p3, .int p4] ((v1, v2, G, v3)) ((v1', v2', G', v3')) r := by
  refine bodyI (cc := cX3_well) (maxL := 5) (ty := .int) (by decide +kernel) rfl (Nat.le_of_ble_eq_true rfl) ?_
  intro p e s m args below meth c A Q hx hb hml hts hown hK hP hD hA hS hend ls hl
  have hown : s.vm.findClass RX3 = some m.cls := hown
  have hP : va_P D vwCl (NW cy aN v1 v2 G v3) s.heap := hP
  have hD : va_D A (NW cy aN v1 v2 G v3) := hD
  have hl : lv_has ls 5 [(0, .ref (aN 0 0)), (1, .int p1), (2, .int p2), (3, .int p3), (4, .int p4)] := hl
  have hend : ∀ (H : Heap) (locs : List Loc) (pc : Nat) (ls : Array Slot) (v : Int32) (v1 : FV) (v2 : FV) (G : (Nat → FV)) (v3 : FV), v = r → (v1, v2, G, v3) = (v1', v2', G', v3') → narrow .int (.int v) = .int v → va_P D vwCl (NW cy aN v1 v2 G v3) H → va_D A (NW cy aN v1 v2 G v3) → va_S A s.heap H locs → decode cX3_well pc = .ok (.ireturn, 1) → W p l e (RM 4 165) s m args below meth c H locs 0 0 Q (F0 m pc ls [.int v]) := fun H locs pc ls v v1 v2 G v3 h1 h2 h3 h4 h5 h6 h7 => hend H locs pc ls v ((v1, v2, G, v3)) h1 h2 h3 h4 h5 h6 h7
  have fl_22 := hts (.fieldLink RX3 22 "NoonWells" "history" "LNoonWells$History;") (by decide +kernel)
  have inw_X3 := (by decide +kernel : ∀ w ∈ u_ws RX3 TX3 4, w ∈ wsX3_well)
  have fl_12 := hts (.fieldLink RX3 12 "NoonWells" "now" "LNoonWells$Field;") (by decide +kernel)
  obtain ⟨H, hHe⟩ : ∃ H : Heap, H = s.heap := ⟨_, rfl⟩
  obtain ⟨locs, hLe⟩ : ∃ x : List Loc, x = [] := ⟨_, rfl⟩
  have hP : va_P D vwCl (NW cy aN v1 v2 G v3) H := by rw [hHe]; exact hP
  have hS : va_S A s.heap H locs := by rw [hHe, hLe]; exact hS
  have goal0 : W p l e (RM 4 165) s m args below meth c H locs 0 0 Q (F0 m 0 ls []) := by
    refine lv_aload_n hx hb dX3_well_0 rfl (lv_at hl 0 rfl) ?_
    refine va_get (ci := 3) (v := .ref (aN 4 0)) (C := RX3) (T := TX3) (N := 4) hx hb hts inw_X3 hown hK.1 hP 0 rfl rfl 2 (by decide) fl_22 (fun _ h9 => h9) rfl dX3_well_1 ?_
    refine lv_aload_n hx hb dX3_well_4 rfl (lv_at hl 0 rfl) ?_
    refine va_get (ci := 3) (v := .ref (aN 1 0)) (C := RX3) (T := TX3) (N := 4) hx hb hts inw_X3 hown hK.1 hP 0 rfl rfl 0 (by decide) fl_12 (fun _ h9 => h9) rfl dX3_well_5 ?_
    obtain ⟨t1, hc1, hc⟩ := b1_some hc
    refine gc_VV (n := 1) (q0 := 0) (ci := 1) (w' := NW cy aN t1.2 v2 t1.1 v3) hx hb hml hown hts hK hP hD hS hA hl.1 ⟨Nat.le_refl _, Nat.le_refl _⟩ (C_X1_note l D cy ((fun i => aN (4 + i))) (aN 1) G v1 t1.1 t1.2 hc1) gX3_well_X1_note rfl (by decide +kernel) rfl ⟨by decide, by decide⟩ (Jn.perm NW_hn NW_hn) rfl rfl rfl (Nat.le_of_ble_eq_true rfl) dX3_well_8 (fun H locs hP hD hS => ?_)
    refine lv_aload_n hx hb dX3_well_11 rfl (lv_at hl 0 rfl) ?_
    refine lv_aload_n hx hb dX3_well_12 rfl (lv_at hl 0 rfl) ?_
    refine va_get (ci := 3) (v := .ref (aN 1 0)) (C := RX3) (T := TX3) (N := 4) hx hb hts inw_X3 hown hK.1 hP 0 rfl rfl 0 (by decide) fl_12 (fun _ h9 => h9) rfl dX3_well_13 ?_
    refine lv_iload_n hx hb dX3_well_16 rfl (lv_at hl 1 rfl) ?_
    refine lv_iload_n hx hb dX3_well_17 rfl (lv_at hl 2 rfl) ?_
    refine lv_iload_n hx hb dX3_well_18 rfl (lv_at hl 3 rfl) ?_
    refine lv_iload hx hb dX3_well_19 (lv_at hl 4 rfl) ?_
    obtain ⟨x2, v12, hc2, hc⟩ := b2_some hc
    refine gc_VI (n := 4) (q0 := 0) (ci := 0) (w' := NW cy aN v12 v2 t1.1 v3) hx hb hml hown hts hK hP hD hS hA hl.1 ⟨Nat.le_refl _, Nat.le_refl _⟩ (C_X0_addWell l D cy (aN 1) t1.2 p1 p2 p3 p4 x2 v12 hc2) gX3_well_X0_addWell rfl (by decide +kernel) rfl ⟨by decide, by decide⟩ (Jn.perm NW_now NW_now) rfl rfl rfl (Nat.le_of_ble_eq_true rfl) dX3_well_21 (fun H locs hP hD hS => ?_)
    obtain ⟨x3, t3, hc3, hc⟩ := b2_some hc
    refine gc_VI (n := 1) (q0 := 0) (ci := 3) (w' := NW cy aN t3.1 t3.2.1 t3.2.2.1 t3.2.2.2) hx hb hml hown hts hK hP hD hS hA hl.1 ⟨Nat.le_refl _, Nat.le_refl _⟩ (C_X3_keepIfDone l D cy aN v12 v2 t1.1 v3 x2 x3 t3.1 t3.2.1 t3.2.2.1 t3.2.2.2 hc3) gX3_well_X3_keepIfDone rfl (by decide +kernel) rfl ⟨by decide, by decide⟩ Jn.same rfl rfl rfl (Nat.le_of_ble_eq_true rfl) dX3_well_24 (fun H locs hP hD hS => ?_)
    exact hend H locs _ _ _ _ _ _ _ (some_fst hc) (some_snd hc) rfl hP hD hS dX3_well_27
  rw [hHe, hLe] at goal0
  exact goal0
set_option maxHeartbeats 4000000 in
set_option maxRecDepth 100000 in
theorem C_X3_drought (l : Launch) (D : va_G) (cy : Nat → ClassId) (aN : Nat → Nat → Nat) (v1 : FV) (v2 : FV) (G : (Nat → FV)) (v3 : FV) (p1 : Int32) (p2 : Int32) (p3 : Int32) (r : Int32) (v1' : FV) (v2' : FV) (G' : (Nat → FV)) (v3' : FV) (hc : f_X3_drought v1 v2 G v3 p1 p2 p3 = some (r, (v1', v2', G', v3'))) : ConI l yX3_drought wsX3_drought 4 165 D cy (fun (u : FV × FV × (Nat → FV) × FV) => NW cy aN u.1 u.2.1 u.2.2.1 u.2.2.2) [.ref (aN 0 0), .int p1, .int p2, .int p3] ((v1, v2, G, v3)) ((v1', v2', G', v3')) r := by
  refine bodyI (cc := cX3_drought) (maxL := 4) (ty := .int) (by decide +kernel) rfl (Nat.le_of_ble_eq_true rfl) ?_
  intro p e s m args below meth c A Q hx hb hml hts hown hK hP hD hA hS hend ls hl
  have hown : s.vm.findClass RX3 = some m.cls := hown
  have hP : va_P D vwCl (NW cy aN v1 v2 G v3) s.heap := hP
  have hD : va_D A (NW cy aN v1 v2 G v3) := hD
  have hl : lv_has ls 4 [(0, .ref (aN 0 0)), (1, .int p1), (2, .int p2), (3, .int p3)] := hl
  have hend : ∀ (H : Heap) (locs : List Loc) (pc : Nat) (ls : Array Slot) (v : Int32) (v1 : FV) (v2 : FV) (G : (Nat → FV)) (v3 : FV), v = r → (v1, v2, G, v3) = (v1', v2', G', v3') → narrow .int (.int v) = .int v → va_P D vwCl (NW cy aN v1 v2 G v3) H → va_D A (NW cy aN v1 v2 G v3) → va_S A s.heap H locs → decode cX3_drought pc = .ok (.ireturn, 1) → W p l e (RM 4 165) s m args below meth c H locs 0 0 Q (F0 m pc ls [.int v]) := fun H locs pc ls v v1 v2 G v3 h1 h2 h3 h4 h5 h6 h7 => hend H locs pc ls v ((v1, v2, G, v3)) h1 h2 h3 h4 h5 h6 h7
  have fl_22 := hts (.fieldLink RX3 22 "NoonWells" "history" "LNoonWells$History;") (by decide +kernel)
  have inw_X3 := (by decide +kernel : ∀ w ∈ u_ws RX3 TX3 4, w ∈ wsX3_drought)
  have fl_12 := hts (.fieldLink RX3 12 "NoonWells" "now" "LNoonWells$Field;") (by decide +kernel)
  obtain ⟨H, hHe⟩ : ∃ H : Heap, H = s.heap := ⟨_, rfl⟩
  obtain ⟨locs, hLe⟩ : ∃ x : List Loc, x = [] := ⟨_, rfl⟩
  have hP : va_P D vwCl (NW cy aN v1 v2 G v3) H := by rw [hHe]; exact hP
  have hS : va_S A s.heap H locs := by rw [hHe, hLe]; exact hS
  have goal0 : W p l e (RM 4 165) s m args below meth c H locs 0 0 Q (F0 m 0 ls []) := by
    refine lv_aload_n hx hb dX3_drought_0 rfl (lv_at hl 0 rfl) ?_
    refine va_get (ci := 3) (v := .ref (aN 4 0)) (C := RX3) (T := TX3) (N := 4) hx hb hts inw_X3 hown hK.1 hP 0 rfl rfl 2 (by decide) fl_22 (fun _ h9 => h9) rfl dX3_drought_1 ?_
    refine lv_aload_n hx hb dX3_drought_4 rfl (lv_at hl 0 rfl) ?_
    refine va_get (ci := 3) (v := .ref (aN 1 0)) (C := RX3) (T := TX3) (N := 4) hx hb hts inw_X3 hown hK.1 hP 0 rfl rfl 0 (by decide) fl_12 (fun _ h9 => h9) rfl dX3_drought_5 ?_
    obtain ⟨t1, hc1, hc⟩ := b1_some hc
    refine gc_VV (n := 1) (q0 := 0) (ci := 1) (w' := NW cy aN t1.2 v2 t1.1 v3) hx hb hml hown hts hK hP hD hS hA hl.1 ⟨Nat.le_refl _, Nat.le_refl _⟩ (C_X1_note l D cy ((fun i => aN (4 + i))) (aN 1) G v1 t1.1 t1.2 hc1) gX3_drought_X1_note rfl (by decide +kernel) rfl ⟨by decide, by decide⟩ (Jn.perm NW_hn NW_hn) rfl rfl rfl (Nat.le_of_ble_eq_true rfl) dX3_drought_8 (fun H locs hP hD hS => ?_)
    refine lv_aload_n hx hb dX3_drought_11 rfl (lv_at hl 0 rfl) ?_
    refine lv_aload_n hx hb dX3_drought_12 rfl (lv_at hl 0 rfl) ?_
    refine va_get (ci := 3) (v := .ref (aN 1 0)) (C := RX3) (T := TX3) (N := 4) hx hb hts inw_X3 hown hK.1 hP 0 rfl rfl 0 (by decide) fl_12 (fun _ h9 => h9) rfl dX3_drought_13 ?_
    refine lv_iload_n hx hb dX3_drought_16 rfl (lv_at hl 1 rfl) ?_
    refine lv_iload_n hx hb dX3_drought_17 rfl (lv_at hl 2 rfl) ?_
    refine lv_iload_n hx hb dX3_drought_18 rfl (lv_at hl 3 rfl) ?_
    obtain ⟨x2, v12, hc2, hc⟩ := b2_some hc
    refine gc_VI (n := 3) (q0 := 0) (ci := 0) (w' := NW cy aN v12 v2 t1.1 v3) hx hb hml hown hts hK hP hD hS hA hl.1 ⟨Nat.le_refl _, Nat.le_refl _⟩ (C_X0_addDrought l D cy (aN 1) t1.2 p1 p2 p3 x2 v12 hc2) gX3_drought_X0_addDrought rfl (by decide +kernel) rfl ⟨by decide, by decide⟩ (Jn.perm NW_now NW_now) rfl rfl rfl (Nat.le_of_ble_eq_true rfl) dX3_drought_19 (fun H locs hP hD hS => ?_)
    obtain ⟨x3, t3, hc3, hc⟩ := b2_some hc
    refine gc_VI (n := 1) (q0 := 0) (ci := 3) (w' := NW cy aN t3.1 t3.2.1 t3.2.2.1 t3.2.2.2) hx hb hml hown hts hK hP hD hS hA hl.1 ⟨Nat.le_refl _, Nat.le_refl _⟩ (C_X3_keepIfDone l D cy aN v12 v2 t1.1 v3 x2 x3 t3.1 t3.2.1 t3.2.2.1 t3.2.2.2 hc3) gX3_drought_X3_keepIfDone rfl (by decide +kernel) rfl ⟨by decide, by decide⟩ Jn.same rfl rfl rfl (Nat.le_of_ble_eq_true rfl) dX3_drought_22 (fun H locs hP hD hS => ?_)
    exact hend H locs _ _ _ _ _ _ _ (some_fst hc) (some_snd hc) rfl hP hD hS dX3_drought_25
  rw [hHe, hLe] at goal0
  exact goal0
set_option maxHeartbeats 4000000 in
set_option maxRecDepth 100000 in
theorem C_X3_draw (l : Launch) (D : va_G) (cy : Nat → ClassId) (aN : Nat → Nat → Nat) (v1 : FV) (v2 : FV) (G : (Nat → FV)) (v3 : FV) (p1 : Int32) (p2 : Int32) (r : Int32) (v1' : FV) (v2' : FV) (G' : (Nat → FV)) (v3' : FV) (hc : f_X3_draw v1 v2 G v3 p1 p2 = some (r, (v1', v2', G', v3'))) : ConI l yX3_draw wsX3_draw 4 165 D cy (fun (u : FV × FV × (Nat → FV) × FV) => NW cy aN u.1 u.2.1 u.2.2.1 u.2.2.2) [.ref (aN 0 0), .int p1, .int p2] ((v1, v2, G, v3)) ((v1', v2', G', v3')) r := by
  refine bodyI (cc := cX3_draw) (maxL := 3) (ty := .int) (by decide +kernel) rfl (Nat.le_of_ble_eq_true rfl) ?_
  intro p e s m args below meth c A Q hx hb hml hts hown hK hP hD hA hS hend ls hl
  have hown : s.vm.findClass RX3 = some m.cls := hown
  have hP : va_P D vwCl (NW cy aN v1 v2 G v3) s.heap := hP
  have hD : va_D A (NW cy aN v1 v2 G v3) := hD
  have hl : lv_has ls 3 [(0, .ref (aN 0 0)), (1, .int p1), (2, .int p2)] := hl
  have hend : ∀ (H : Heap) (locs : List Loc) (pc : Nat) (ls : Array Slot) (v : Int32) (v1 : FV) (v2 : FV) (G : (Nat → FV)) (v3 : FV), v = r → (v1, v2, G, v3) = (v1', v2', G', v3') → narrow .int (.int v) = .int v → va_P D vwCl (NW cy aN v1 v2 G v3) H → va_D A (NW cy aN v1 v2 G v3) → va_S A s.heap H locs → decode cX3_draw pc = .ok (.ireturn, 1) → W p l e (RM 4 165) s m args below meth c H locs 0 0 Q (F0 m pc ls [.int v]) := fun H locs pc ls v v1 v2 G v3 h1 h2 h3 h4 h5 h6 h7 => hend H locs pc ls v ((v1, v2, G, v3)) h1 h2 h3 h4 h5 h6 h7
  have fl_22 := hts (.fieldLink RX3 22 "NoonWells" "history" "LNoonWells$History;") (by decide +kernel)
  have inw_X3 := (by decide +kernel : ∀ w ∈ u_ws RX3 TX3 4, w ∈ wsX3_draw)
  have fl_12 := hts (.fieldLink RX3 12 "NoonWells" "now" "LNoonWells$Field;") (by decide +kernel)
  obtain ⟨H, hHe⟩ : ∃ H : Heap, H = s.heap := ⟨_, rfl⟩
  obtain ⟨locs, hLe⟩ : ∃ x : List Loc, x = [] := ⟨_, rfl⟩
  have hP : va_P D vwCl (NW cy aN v1 v2 G v3) H := by rw [hHe]; exact hP
  have hS : va_S A s.heap H locs := by rw [hHe, hLe]; exact hS
  have goal0 : W p l e (RM 4 165) s m args below meth c H locs 0 0 Q (F0 m 0 ls []) := by
    refine lv_aload_n hx hb dX3_draw_0 rfl (lv_at hl 0 rfl) ?_
    refine va_get (ci := 3) (v := .ref (aN 4 0)) (C := RX3) (T := TX3) (N := 4) hx hb hts inw_X3 hown hK.1 hP 0 rfl rfl 2 (by decide) fl_22 (fun _ h9 => h9) rfl dX3_draw_1 ?_
    refine lv_aload_n hx hb dX3_draw_4 rfl (lv_at hl 0 rfl) ?_
    refine va_get (ci := 3) (v := .ref (aN 1 0)) (C := RX3) (T := TX3) (N := 4) hx hb hts inw_X3 hown hK.1 hP 0 rfl rfl 0 (by decide) fl_12 (fun _ h9 => h9) rfl dX3_draw_5 ?_
    obtain ⟨t1, hc1, hc⟩ := b1_some hc
    refine gc_VV (n := 1) (q0 := 0) (ci := 1) (w' := NW cy aN t1.2 v2 t1.1 v3) hx hb hml hown hts hK hP hD hS hA hl.1 ⟨Nat.le_refl _, Nat.le_refl _⟩ (C_X1_note l D cy ((fun i => aN (4 + i))) (aN 1) G v1 t1.1 t1.2 hc1) gX3_draw_X1_note rfl (by decide +kernel) rfl ⟨by decide, by decide⟩ (Jn.perm NW_hn NW_hn) rfl rfl rfl (Nat.le_of_ble_eq_true rfl) dX3_draw_8 (fun H locs hP hD hS => ?_)
    refine lv_aload_n hx hb dX3_draw_11 rfl (lv_at hl 0 rfl) ?_
    refine lv_aload_n hx hb dX3_draw_12 rfl (lv_at hl 0 rfl) ?_
    refine va_get (ci := 3) (v := .ref (aN 1 0)) (C := RX3) (T := TX3) (N := 4) hx hb hts inw_X3 hown hK.1 hP 0 rfl rfl 0 (by decide) fl_12 (fun _ h9 => h9) rfl dX3_draw_13 ?_
    refine lv_iload_n hx hb dX3_draw_16 rfl (lv_at hl 1 rfl) ?_
    refine lv_iload_n hx hb dX3_draw_17 rfl (lv_at hl 2 rfl) ?_
    obtain ⟨x2, v12, hc2, hc⟩ := b2_some hc
    refine gc_VI (n := 2) (q0 := 0) (ci := 0) (w' := NW cy aN v12 v2 t1.1 v3) hx hb hml hown hts hK hP hD hS hA hl.1 ⟨Nat.le_refl _, Nat.le_refl _⟩ (C_X0_takeDraw l D cy (aN 1) t1.2 p1 p2 x2 v12 hc2) gX3_draw_X0_takeDraw rfl (by decide +kernel) rfl ⟨by decide, by decide⟩ (Jn.perm NW_now NW_now) rfl rfl rfl (Nat.le_of_ble_eq_true rfl) dX3_draw_18 (fun H locs hP hD hS => ?_)
    obtain ⟨x3, t3, hc3, hc⟩ := b2_some hc
    refine gc_VI (n := 1) (q0 := 0) (ci := 3) (w' := NW cy aN t3.1 t3.2.1 t3.2.2.1 t3.2.2.2) hx hb hml hown hts hK hP hD hS hA hl.1 ⟨Nat.le_refl _, Nat.le_refl _⟩ (C_X3_keepIfDone l D cy aN v12 v2 t1.1 v3 x2 x3 t3.1 t3.2.1 t3.2.2.1 t3.2.2.2 hc3) gX3_draw_X3_keepIfDone rfl (by decide +kernel) rfl ⟨by decide, by decide⟩ Jn.same rfl rfl rfl (Nat.le_of_ble_eq_true rfl) dX3_draw_21 (fun H locs hP hD hS => ?_)
    exact hend H locs _ _ _ _ _ _ _ (some_fst hc) (some_snd hc) rfl hP hD hS dX3_draw_24
  rw [hHe, hLe] at goal0
  exact goal0
set_option maxHeartbeats 4000000 in
set_option maxRecDepth 100000 in
theorem C_X3_request (l : Launch) (D : va_G) (cy : Nat → ClassId) (aN : Nat → Nat → Nat) (v1 : FV) (v2 : FV) (G : (Nat → FV)) (v3 : FV) (p1 : Int32) (p2 : Int32) (r : Int32) (v1' : FV) (v2' : FV) (G' : (Nat → FV)) (v3' : FV) (hc : f_X3_request v1 v2 G v3 p1 p2 = some (r, (v1', v2', G', v3'))) : ConI l yX3_request wsX3_request 4 165 D cy (fun (u : FV × FV × (Nat → FV) × FV) => NW cy aN u.1 u.2.1 u.2.2.1 u.2.2.2) [.ref (aN 0 0), .int p1, .int p2] ((v1, v2, G, v3)) ((v1', v2', G', v3')) r := by
  refine bodyI (cc := cX3_request) (maxL := 3) (ty := .int) (by decide +kernel) rfl (Nat.le_of_ble_eq_true rfl) ?_
  intro p e s m args below meth c A Q hx hb hml hts hown hK hP hD hA hS hend ls hl
  have hown : s.vm.findClass RX3 = some m.cls := hown
  have hP : va_P D vwCl (NW cy aN v1 v2 G v3) s.heap := hP
  have hD : va_D A (NW cy aN v1 v2 G v3) := hD
  have hl : lv_has ls 3 [(0, .ref (aN 0 0)), (1, .int p1), (2, .int p2)] := hl
  have hend : ∀ (H : Heap) (locs : List Loc) (pc : Nat) (ls : Array Slot) (v : Int32) (v1 : FV) (v2 : FV) (G : (Nat → FV)) (v3 : FV), v = r → (v1, v2, G, v3) = (v1', v2', G', v3') → narrow .int (.int v) = .int v → va_P D vwCl (NW cy aN v1 v2 G v3) H → va_D A (NW cy aN v1 v2 G v3) → va_S A s.heap H locs → decode cX3_request pc = .ok (.ireturn, 1) → W p l e (RM 4 165) s m args below meth c H locs 0 0 Q (F0 m pc ls [.int v]) := fun H locs pc ls v v1 v2 G v3 h1 h2 h3 h4 h5 h6 h7 => hend H locs pc ls v ((v1, v2, G, v3)) h1 h2 h3 h4 h5 h6 h7
  have fl_22 := hts (.fieldLink RX3 22 "NoonWells" "history" "LNoonWells$History;") (by decide +kernel)
  have inw_X3 := (by decide +kernel : ∀ w ∈ u_ws RX3 TX3 4, w ∈ wsX3_request)
  have fl_12 := hts (.fieldLink RX3 12 "NoonWells" "now" "LNoonWells$Field;") (by decide +kernel)
  obtain ⟨H, hHe⟩ : ∃ H : Heap, H = s.heap := ⟨_, rfl⟩
  obtain ⟨locs, hLe⟩ : ∃ x : List Loc, x = [] := ⟨_, rfl⟩
  have hP : va_P D vwCl (NW cy aN v1 v2 G v3) H := by rw [hHe]; exact hP
  have hS : va_S A s.heap H locs := by rw [hHe, hLe]; exact hS
  have goal0 : W p l e (RM 4 165) s m args below meth c H locs 0 0 Q (F0 m 0 ls []) := by
    refine lv_aload_n hx hb dX3_request_0 rfl (lv_at hl 0 rfl) ?_
    refine va_get (ci := 3) (v := .ref (aN 4 0)) (C := RX3) (T := TX3) (N := 4) hx hb hts inw_X3 hown hK.1 hP 0 rfl rfl 2 (by decide) fl_22 (fun _ h9 => h9) rfl dX3_request_1 ?_
    refine lv_aload_n hx hb dX3_request_4 rfl (lv_at hl 0 rfl) ?_
    refine va_get (ci := 3) (v := .ref (aN 1 0)) (C := RX3) (T := TX3) (N := 4) hx hb hts inw_X3 hown hK.1 hP 0 rfl rfl 0 (by decide) fl_12 (fun _ h9 => h9) rfl dX3_request_5 ?_
    obtain ⟨t1, hc1, hc⟩ := b1_some hc
    refine gc_VV (n := 1) (q0 := 0) (ci := 1) (w' := NW cy aN t1.2 v2 t1.1 v3) hx hb hml hown hts hK hP hD hS hA hl.1 ⟨Nat.le_refl _, Nat.le_refl _⟩ (C_X1_note l D cy ((fun i => aN (4 + i))) (aN 1) G v1 t1.1 t1.2 hc1) gX3_request_X1_note rfl (by decide +kernel) rfl ⟨by decide, by decide⟩ (Jn.perm NW_hn NW_hn) rfl rfl rfl (Nat.le_of_ble_eq_true rfl) dX3_request_8 (fun H locs hP hD hS => ?_)
    refine lv_aload_n hx hb dX3_request_11 rfl (lv_at hl 0 rfl) ?_
    refine lv_aload_n hx hb dX3_request_12 rfl (lv_at hl 0 rfl) ?_
    refine va_get (ci := 3) (v := .ref (aN 1 0)) (C := RX3) (T := TX3) (N := 4) hx hb hts inw_X3 hown hK.1 hP 0 rfl rfl 0 (by decide) fl_12 (fun _ h9 => h9) rfl dX3_request_13 ?_
    refine lv_iload_n hx hb dX3_request_16 rfl (lv_at hl 1 rfl) ?_
    refine lv_iload_n hx hb dX3_request_17 rfl (lv_at hl 2 rfl) ?_
    obtain ⟨x2, v12, hc2, hc⟩ := b2_some hc
    refine gc_VI (n := 2) (q0 := 0) (ci := 0) (w' := NW cy aN v12 v2 t1.1 v3) hx hb hml hown hts hK hP hD hS hA hl.1 ⟨Nat.le_refl _, Nat.le_refl _⟩ (C_X0_takeRequest l D cy (aN 1) t1.2 p1 p2 x2 v12 hc2) gX3_request_X0_takeRequest rfl (by decide +kernel) rfl ⟨by decide, by decide⟩ (Jn.perm NW_now NW_now) rfl rfl rfl (Nat.le_of_ble_eq_true rfl) dX3_request_18 (fun H locs hP hD hS => ?_)
    obtain ⟨x3, t3, hc3, hc⟩ := b2_some hc
    refine gc_VI (n := 1) (q0 := 0) (ci := 3) (w' := NW cy aN t3.1 t3.2.1 t3.2.2.1 t3.2.2.2) hx hb hml hown hts hK hP hD hS hA hl.1 ⟨Nat.le_refl _, Nat.le_refl _⟩ (C_X3_keepIfDone l D cy aN v12 v2 t1.1 v3 x2 x3 t3.1 t3.2.1 t3.2.2.1 t3.2.2.2 hc3) gX3_request_X3_keepIfDone rfl (by decide +kernel) rfl ⟨by decide, by decide⟩ Jn.same rfl rfl rfl (Nat.le_of_ble_eq_true rfl) dX3_request_21 (fun H locs hP hD hS => ?_)
    exact hend H locs _ _ _ _ _ _ _ (some_fst hc) (some_snd hc) rfl hP hD hS dX3_request_24
  rw [hHe, hLe] at goal0
  exact goal0
set_option maxHeartbeats 4000000 in
set_option maxRecDepth 100000 in
theorem C_X3_cancel (l : Launch) (D : va_G) (cy : Nat → ClassId) (aN : Nat → Nat → Nat) (v1 : FV) (v2 : FV) (G : (Nat → FV)) (v3 : FV) (p1 : Int32) (r : Int32) (v1' : FV) (v2' : FV) (G' : (Nat → FV)) (v3' : FV) (hc : f_X3_cancel v1 v2 G v3 p1 = some (r, (v1', v2', G', v3'))) : ConI l yX3_cancel wsX3_cancel 4 165 D cy (fun (u : FV × FV × (Nat → FV) × FV) => NW cy aN u.1 u.2.1 u.2.2.1 u.2.2.2) [.ref (aN 0 0), .int p1] ((v1, v2, G, v3)) ((v1', v2', G', v3')) r := by
  refine bodyI (cc := cX3_cancel) (maxL := 2) (ty := .int) (by decide +kernel) rfl (Nat.le_of_ble_eq_true rfl) ?_
  intro p e s m args below meth c A Q hx hb hml hts hown hK hP hD hA hS hend ls hl
  have hown : s.vm.findClass RX3 = some m.cls := hown
  have hP : va_P D vwCl (NW cy aN v1 v2 G v3) s.heap := hP
  have hD : va_D A (NW cy aN v1 v2 G v3) := hD
  have hl : lv_has ls 2 [(0, .ref (aN 0 0)), (1, .int p1)] := hl
  have hend : ∀ (H : Heap) (locs : List Loc) (pc : Nat) (ls : Array Slot) (v : Int32) (v1 : FV) (v2 : FV) (G : (Nat → FV)) (v3 : FV), v = r → (v1, v2, G, v3) = (v1', v2', G', v3') → narrow .int (.int v) = .int v → va_P D vwCl (NW cy aN v1 v2 G v3) H → va_D A (NW cy aN v1 v2 G v3) → va_S A s.heap H locs → decode cX3_cancel pc = .ok (.ireturn, 1) → W p l e (RM 4 165) s m args below meth c H locs 0 0 Q (F0 m pc ls [.int v]) := fun H locs pc ls v v1 v2 G v3 h1 h2 h3 h4 h5 h6 h7 => hend H locs pc ls v ((v1, v2, G, v3)) h1 h2 h3 h4 h5 h6 h7
  have fl_22 := hts (.fieldLink RX3 22 "NoonWells" "history" "LNoonWells$History;") (by decide +kernel)
  have inw_X3 := (by decide +kernel : ∀ w ∈ u_ws RX3 TX3 4, w ∈ wsX3_cancel)
  have fl_12 := hts (.fieldLink RX3 12 "NoonWells" "now" "LNoonWells$Field;") (by decide +kernel)
  obtain ⟨H, hHe⟩ : ∃ H : Heap, H = s.heap := ⟨_, rfl⟩
  obtain ⟨locs, hLe⟩ : ∃ x : List Loc, x = [] := ⟨_, rfl⟩
  have hP : va_P D vwCl (NW cy aN v1 v2 G v3) H := by rw [hHe]; exact hP
  have hS : va_S A s.heap H locs := by rw [hHe, hLe]; exact hS
  have goal0 : W p l e (RM 4 165) s m args below meth c H locs 0 0 Q (F0 m 0 ls []) := by
    refine lv_aload_n hx hb dX3_cancel_0 rfl (lv_at hl 0 rfl) ?_
    refine va_get (ci := 3) (v := .ref (aN 4 0)) (C := RX3) (T := TX3) (N := 4) hx hb hts inw_X3 hown hK.1 hP 0 rfl rfl 2 (by decide) fl_22 (fun _ h9 => h9) rfl dX3_cancel_1 ?_
    refine lv_aload_n hx hb dX3_cancel_4 rfl (lv_at hl 0 rfl) ?_
    refine va_get (ci := 3) (v := .ref (aN 1 0)) (C := RX3) (T := TX3) (N := 4) hx hb hts inw_X3 hown hK.1 hP 0 rfl rfl 0 (by decide) fl_12 (fun _ h9 => h9) rfl dX3_cancel_5 ?_
    obtain ⟨t1, hc1, hc⟩ := b1_some hc
    refine gc_VV (n := 1) (q0 := 0) (ci := 1) (w' := NW cy aN t1.2 v2 t1.1 v3) hx hb hml hown hts hK hP hD hS hA hl.1 ⟨Nat.le_refl _, Nat.le_refl _⟩ (C_X1_note l D cy ((fun i => aN (4 + i))) (aN 1) G v1 t1.1 t1.2 hc1) gX3_cancel_X1_note rfl (by decide +kernel) rfl ⟨by decide, by decide⟩ (Jn.perm NW_hn NW_hn) rfl rfl rfl (Nat.le_of_ble_eq_true rfl) dX3_cancel_8 (fun H locs hP hD hS => ?_)
    refine lv_aload_n hx hb dX3_cancel_11 rfl (lv_at hl 0 rfl) ?_
    refine lv_aload_n hx hb dX3_cancel_12 rfl (lv_at hl 0 rfl) ?_
    refine va_get (ci := 3) (v := .ref (aN 1 0)) (C := RX3) (T := TX3) (N := 4) hx hb hts inw_X3 hown hK.1 hP 0 rfl rfl 0 (by decide) fl_12 (fun _ h9 => h9) rfl dX3_cancel_13 ?_
    refine lv_iload_n hx hb dX3_cancel_16 rfl (lv_at hl 1 rfl) ?_
    obtain ⟨x2, v12, hc2, hc⟩ := b2_some hc
    refine gc_VI (n := 1) (q0 := 0) (ci := 0) (w' := NW cy aN v12 v2 t1.1 v3) hx hb hml hown hts hK hP hD hS hA hl.1 ⟨Nat.le_refl _, Nat.le_refl _⟩ (C_X0_dropRequest l D cy (aN 1) t1.2 p1 x2 v12 hc2) gX3_cancel_X0_dropRequest rfl (by decide +kernel) rfl ⟨by decide, by decide⟩ (Jn.perm NW_now NW_now) rfl rfl rfl (Nat.le_of_ble_eq_true rfl) dX3_cancel_17 (fun H locs hP hD hS => ?_)
    obtain ⟨x3, t3, hc3, hc⟩ := b2_some hc
    refine gc_VI (n := 1) (q0 := 0) (ci := 3) (w' := NW cy aN t3.1 t3.2.1 t3.2.2.1 t3.2.2.2) hx hb hml hown hts hK hP hD hS hA hl.1 ⟨Nat.le_refl _, Nat.le_refl _⟩ (C_X3_keepIfDone l D cy aN v12 v2 t1.1 v3 x2 x3 t3.1 t3.2.1 t3.2.2.1 t3.2.2.2 hc3) gX3_cancel_X3_keepIfDone rfl (by decide +kernel) rfl ⟨by decide, by decide⟩ Jn.same rfl rfl rfl (Nat.le_of_ble_eq_true rfl) dX3_cancel_20 (fun H locs hP hD hS => ?_)
    exact hend H locs _ _ _ _ _ _ _ (some_fst hc) (some_snd hc) rfl hP hD hS dX3_cancel_23
  rw [hHe, hLe] at goal0
  exact goal0
set_option maxHeartbeats 4000000 in
set_option maxRecDepth 100000 in
theorem C_X3_tick (l : Launch) (D : va_G) (cy : Nat → ClassId) (aN : Nat → Nat → Nat) (v1 : FV) (v2 : FV) (G : (Nat → FV)) (v3 : FV) (p1 : Int32) (r : Int32) (v1' : FV) (v2' : FV) (G' : (Nat → FV)) (v3' : FV) (hc : f_X3_tick v1 v2 G v3 p1 = some (r, (v1', v2', G', v3'))) : ConI l yX3_tick wsX3_tick 5 165 D cy (fun (u : FV × FV × (Nat → FV) × FV) => NW cy aN u.1 u.2.1 u.2.2.1 u.2.2.2) [.ref (aN 0 0), .int p1] ((v1, v2, G, v3)) ((v1', v2', G', v3')) r := by
  refine bodyI (cc := cX3_tick) (maxL := 2) (ty := .int) (by decide +kernel) rfl (Nat.le_of_ble_eq_true rfl) ?_
  intro p e s m args below meth c A Q hx hb hml hts hown hK hP hD hA hS hend ls hl
  have hown : s.vm.findClass RX3 = some m.cls := hown
  have hP : va_P D vwCl (NW cy aN v1 v2 G v3) s.heap := hP
  have hD : va_D A (NW cy aN v1 v2 G v3) := hD
  have hl : lv_has ls 2 [(0, .ref (aN 0 0)), (1, .int p1)] := hl
  have hend : ∀ (H : Heap) (locs : List Loc) (pc : Nat) (ls : Array Slot) (v : Int32) (v1 : FV) (v2 : FV) (G : (Nat → FV)) (v3 : FV), v = r → (v1, v2, G, v3) = (v1', v2', G', v3') → narrow .int (.int v) = .int v → va_P D vwCl (NW cy aN v1 v2 G v3) H → va_D A (NW cy aN v1 v2 G v3) → va_S A s.heap H locs → decode cX3_tick pc = .ok (.ireturn, 1) → W p l e (RM 5 165) s m args below meth c H locs 0 0 Q (F0 m pc ls [.int v]) := fun H locs pc ls v v1 v2 G v3 h1 h2 h3 h4 h5 h6 h7 => hend H locs pc ls v ((v1, v2, G, v3)) h1 h2 h3 h4 h5 h6 h7
  have fl_22 := hts (.fieldLink RX3 22 "NoonWells" "history" "LNoonWells$History;") (by decide +kernel)
  have inw_X3 := (by decide +kernel : ∀ w ∈ u_ws RX3 TX3 4, w ∈ wsX3_tick)
  have fl_12 := hts (.fieldLink RX3 12 "NoonWells" "now" "LNoonWells$Field;") (by decide +kernel)
  obtain ⟨H, hHe⟩ : ∃ H : Heap, H = s.heap := ⟨_, rfl⟩
  obtain ⟨locs, hLe⟩ : ∃ x : List Loc, x = [] := ⟨_, rfl⟩
  have hP : va_P D vwCl (NW cy aN v1 v2 G v3) H := by rw [hHe]; exact hP
  have hS : va_S A s.heap H locs := by rw [hHe, hLe]; exact hS
  have goal0 : W p l e (RM 5 165) s m args below meth c H locs 0 0 Q (F0 m 0 ls []) := by
    refine lv_aload_n hx hb dX3_tick_0 rfl (lv_at hl 0 rfl) ?_
    refine va_get (ci := 3) (v := .ref (aN 4 0)) (C := RX3) (T := TX3) (N := 4) hx hb hts inw_X3 hown hK.1 hP 0 rfl rfl 2 (by decide) fl_22 (fun _ h9 => h9) rfl dX3_tick_1 ?_
    refine lv_aload_n hx hb dX3_tick_4 rfl (lv_at hl 0 rfl) ?_
    refine va_get (ci := 3) (v := .ref (aN 1 0)) (C := RX3) (T := TX3) (N := 4) hx hb hts inw_X3 hown hK.1 hP 0 rfl rfl 0 (by decide) fl_12 (fun _ h9 => h9) rfl dX3_tick_5 ?_
    obtain ⟨t1, hc1, hc⟩ := b1_some hc
    refine gc_VV (n := 1) (q0 := 0) (ci := 1) (w' := NW cy aN t1.2 v2 t1.1 v3) hx hb hml hown hts hK hP hD hS hA hl.1 ⟨Nat.le_refl _, Nat.le_refl _⟩ (C_X1_note l D cy ((fun i => aN (4 + i))) (aN 1) G v1 t1.1 t1.2 hc1) gX3_tick_X1_note rfl (by decide +kernel) rfl ⟨by decide, by decide⟩ (Jn.perm NW_hn NW_hn) rfl rfl rfl (Nat.le_of_ble_eq_true rfl) dX3_tick_8 (fun H locs hP hD hS => ?_)
    refine lv_aload_n hx hb dX3_tick_11 rfl (lv_at hl 0 rfl) ?_
    refine lv_aload_n hx hb dX3_tick_12 rfl (lv_at hl 0 rfl) ?_
    refine va_get (ci := 3) (v := .ref (aN 1 0)) (C := RX3) (T := TX3) (N := 4) hx hb hts inw_X3 hown hK.1 hP 0 rfl rfl 0 (by decide) fl_12 (fun _ h9 => h9) rfl dX3_tick_13 ?_
    refine lv_iload_n hx hb dX3_tick_16 rfl (lv_at hl 1 rfl) ?_
    obtain ⟨x2, v12, hc2, hc⟩ := b2_some hc
    refine gc_VI (n := 1) (q0 := 0) (ci := 0) (w' := NW cy aN v12 v2 t1.1 v3) hx hb hml hown hts hK hP hD hS hA hl.1 ⟨Nat.le_refl _, Nat.le_refl _⟩ (C_X0_passTicks l D cy (aN 1) t1.2 p1 x2 v12 hc2) gX3_tick_X0_passTicks rfl (by decide +kernel) rfl ⟨by decide, by decide⟩ (Jn.perm NW_now NW_now) rfl rfl rfl (Nat.le_of_ble_eq_true rfl) dX3_tick_17 (fun H locs hP hD hS => ?_)
    obtain ⟨x3, t3, hc3, hc⟩ := b2_some hc
    refine gc_VI (n := 1) (q0 := 0) (ci := 3) (w' := NW cy aN t3.1 t3.2.1 t3.2.2.1 t3.2.2.2) hx hb hml hown hts hK hP hD hS hA hl.1 ⟨Nat.le_refl _, Nat.le_refl _⟩ (C_X3_keepIfDone l D cy aN v12 v2 t1.1 v3 x2 x3 t3.1 t3.2.1 t3.2.2.1 t3.2.2.2 hc3) gX3_tick_X3_keepIfDone rfl (by decide +kernel) rfl ⟨by decide, by decide⟩ Jn.same rfl rfl rfl (Nat.le_of_ble_eq_true rfl) dX3_tick_20 (fun H locs hP hD hS => ?_)
    exact hend H locs _ _ _ _ _ _ _ (some_fst hc) (some_snd hc) rfl hP hD hS dX3_tick_23
  rw [hHe, hLe] at goal0
  exact goal0
set_option maxHeartbeats 4000000 in
set_option maxRecDepth 100000 in
theorem C_X3_set (l : Launch) (D : va_G) (cy : Nat → ClassId) (aN : Nat → Nat → Nat) (v1 : FV) (v2 : FV) (G : (Nat → FV)) (v3 : FV) (p1 : Int32) (p2 : Int32) (r : Int32) (v1' : FV) (v2' : FV) (G' : (Nat → FV)) (v3' : FV) (hc : f_X3_set v1 v2 G v3 p1 p2 = some (r, (v1', v2', G', v3'))) : ConI l yX3_set wsX3_set 4 165 D cy (fun (u : FV × FV × (Nat → FV) × FV) => NW cy aN u.1 u.2.1 u.2.2.1 u.2.2.2) [.ref (aN 0 0), .int p1, .int p2] ((v1, v2, G, v3)) ((v1', v2', G', v3')) r := by
  refine bodyI (cc := cX3_set) (maxL := 3) (ty := .int) (by decide +kernel) rfl (Nat.le_of_ble_eq_true rfl) ?_
  intro p e s m args below meth c A Q hx hb hml hts hown hK hP hD hA hS hend ls hl
  have hown : s.vm.findClass RX3 = some m.cls := hown
  have hP : va_P D vwCl (NW cy aN v1 v2 G v3) s.heap := hP
  have hD : va_D A (NW cy aN v1 v2 G v3) := hD
  have hl : lv_has ls 3 [(0, .ref (aN 0 0)), (1, .int p1), (2, .int p2)] := hl
  have hend : ∀ (H : Heap) (locs : List Loc) (pc : Nat) (ls : Array Slot) (v : Int32) (v1 : FV) (v2 : FV) (G : (Nat → FV)) (v3 : FV), v = r → (v1, v2, G, v3) = (v1', v2', G', v3') → narrow .int (.int v) = .int v → va_P D vwCl (NW cy aN v1 v2 G v3) H → va_D A (NW cy aN v1 v2 G v3) → va_S A s.heap H locs → decode cX3_set pc = .ok (.ireturn, 1) → W p l e (RM 4 165) s m args below meth c H locs 0 0 Q (F0 m pc ls [.int v]) := fun H locs pc ls v v1 v2 G v3 h1 h2 h3 h4 h5 h6 h7 => hend H locs pc ls v ((v1, v2, G, v3)) h1 h2 h3 h4 h5 h6 h7
  have fl_22 := hts (.fieldLink RX3 22 "NoonWells" "history" "LNoonWells$History;") (by decide +kernel)
  have inw_X3 := (by decide +kernel : ∀ w ∈ u_ws RX3 TX3 4, w ∈ wsX3_set)
  have fl_12 := hts (.fieldLink RX3 12 "NoonWells" "now" "LNoonWells$Field;") (by decide +kernel)
  obtain ⟨H, hHe⟩ : ∃ H : Heap, H = s.heap := ⟨_, rfl⟩
  obtain ⟨locs, hLe⟩ : ∃ x : List Loc, x = [] := ⟨_, rfl⟩
  have hP : va_P D vwCl (NW cy aN v1 v2 G v3) H := by rw [hHe]; exact hP
  have hS : va_S A s.heap H locs := by rw [hHe, hLe]; exact hS
  have goal0 : W p l e (RM 4 165) s m args below meth c H locs 0 0 Q (F0 m 0 ls []) := by
    refine lv_aload_n hx hb dX3_set_0 rfl (lv_at hl 0 rfl) ?_
    refine va_get (ci := 3) (v := .ref (aN 4 0)) (C := RX3) (T := TX3) (N := 4) hx hb hts inw_X3 hown hK.1 hP 0 rfl rfl 2 (by decide) fl_22 (fun _ h9 => h9) rfl dX3_set_1 ?_
    refine lv_aload_n hx hb dX3_set_4 rfl (lv_at hl 0 rfl) ?_
    refine va_get (ci := 3) (v := .ref (aN 1 0)) (C := RX3) (T := TX3) (N := 4) hx hb hts inw_X3 hown hK.1 hP 0 rfl rfl 0 (by decide) fl_12 (fun _ h9 => h9) rfl dX3_set_5 ?_
    obtain ⟨t1, hc1, hc⟩ := b1_some hc
    refine gc_VV (n := 1) (q0 := 0) (ci := 1) (w' := NW cy aN t1.2 v2 t1.1 v3) hx hb hml hown hts hK hP hD hS hA hl.1 ⟨Nat.le_refl _, Nat.le_refl _⟩ (C_X1_note l D cy ((fun i => aN (4 + i))) (aN 1) G v1 t1.1 t1.2 hc1) gX3_set_X1_note rfl (by decide +kernel) rfl ⟨by decide, by decide⟩ (Jn.perm NW_hn NW_hn) rfl rfl rfl (Nat.le_of_ble_eq_true rfl) dX3_set_8 (fun H locs hP hD hS => ?_)
    refine lv_aload_n hx hb dX3_set_11 rfl (lv_at hl 0 rfl) ?_
    refine lv_aload_n hx hb dX3_set_12 rfl (lv_at hl 0 rfl) ?_
    refine va_get (ci := 3) (v := .ref (aN 1 0)) (C := RX3) (T := TX3) (N := 4) hx hb hts inw_X3 hown hK.1 hP 0 rfl rfl 0 (by decide) fl_12 (fun _ h9 => h9) rfl dX3_set_13 ?_
    refine lv_iload_n hx hb dX3_set_16 rfl (lv_at hl 1 rfl) ?_
    refine lv_iload_n hx hb dX3_set_17 rfl (lv_at hl 2 rfl) ?_
    obtain ⟨x2, v12, hc2, hc⟩ := b2_some hc
    refine gc_VI (n := 2) (q0 := 0) (ci := 0) (w' := NW cy aN v12 v2 t1.1 v3) hx hb hml hown hts hK hP hD hS hA hl.1 ⟨Nat.le_refl _, Nat.le_refl _⟩ (C_X0_changeSetting l D cy (aN 1) t1.2 p1 p2 x2 v12 hc2) gX3_set_X0_changeSetting rfl (by decide +kernel) rfl ⟨by decide, by decide⟩ (Jn.perm NW_now NW_now) rfl rfl rfl (Nat.le_of_ble_eq_true rfl) dX3_set_18 (fun H locs hP hD hS => ?_)
    obtain ⟨x3, t3, hc3, hc⟩ := b2_some hc
    refine gc_VI (n := 1) (q0 := 0) (ci := 3) (w' := NW cy aN t3.1 t3.2.1 t3.2.2.1 t3.2.2.2) hx hb hml hown hts hK hP hD hS hA hl.1 ⟨Nat.le_refl _, Nat.le_refl _⟩ (C_X3_keepIfDone l D cy aN v12 v2 t1.1 v3 x2 x3 t3.1 t3.2.1 t3.2.2.1 t3.2.2.2 hc3) gX3_set_X3_keepIfDone rfl (by decide +kernel) rfl ⟨by decide, by decide⟩ Jn.same rfl rfl rfl (Nat.le_of_ble_eq_true rfl) dX3_set_21 (fun H locs hP hD hS => ?_)
    exact hend H locs _ _ _ _ _ _ _ (some_fst hc) (some_snd hc) rfl hP hD hS dX3_set_24
  rw [hHe, hLe] at goal0
  exact goal0
set_option maxHeartbeats 4000000 in
set_option maxRecDepth 100000 in
theorem C_X3_able (l : Launch) (D : va_G) (cy : Nat → ClassId) (aN : Nat → Nat → Nat) (v1 : FV) (v2 : FV) (G : (Nat → FV)) (v3 : FV) (p1 : Int32) (r : Int32) (v1' : FV) (v2' : FV) (G' : (Nat → FV)) (v3' : FV) (hc : f_X3_able v1 v2 G v3 p1 = some (r, (v1', v2', G', v3'))) : ConI l yX3_able wsX3_able 2 50 D cy (fun (u : FV × FV × (Nat → FV) × FV) => NW cy aN u.1 u.2.1 u.2.2.1 u.2.2.2) [.ref (aN 0 0), .int p1] ((v1, v2, G, v3)) ((v1', v2', G', v3')) r := by
  refine bodyI (cc := cX3_able) (maxL := 2) (ty := .int) (by decide +kernel) rfl (Nat.le_of_ble_eq_true rfl) ?_
  intro p e s m args below meth c A Q hx hb hml hts hown hK hP hD hA hS hend ls hl
  have hown : s.vm.findClass RX3 = some m.cls := hown
  have hP : va_P D vwCl (NW cy aN v1 v2 G v3) s.heap := hP
  have hD : va_D A (NW cy aN v1 v2 G v3) := hD
  have hl : lv_has ls 2 [(0, .ref (aN 0 0)), (1, .int p1)] := hl
  have hend : ∀ (H : Heap) (locs : List Loc) (pc : Nat) (ls : Array Slot) (v : Int32) (v1 : FV) (v2 : FV) (G : (Nat → FV)) (v3 : FV), v = r → (v1, v2, G, v3) = (v1', v2', G', v3') → narrow .int (.int v) = .int v → va_P D vwCl (NW cy aN v1 v2 G v3) H → va_D A (NW cy aN v1 v2 G v3) → va_S A s.heap H locs → decode cX3_able pc = .ok (.ireturn, 1) → W p l e (RM 2 50) s m args below meth c H locs 0 0 Q (F0 m pc ls [.int v]) := fun H locs pc ls v v1 v2 G v3 h1 h2 h3 h4 h5 h6 h7 => hend H locs pc ls v ((v1, v2, G, v3)) h1 h2 h3 h4 h5 h6 h7
  have fl_12 := hts (.fieldLink RX3 12 "NoonWells" "now" "LNoonWells$Field;") (by decide +kernel)
  have inw_X3 := (by decide +kernel : ∀ w ∈ u_ws RX3 TX3 4, w ∈ wsX3_able)
  obtain ⟨H, hHe⟩ : ∃ H : Heap, H = s.heap := ⟨_, rfl⟩
  obtain ⟨locs, hLe⟩ : ∃ x : List Loc, x = [] := ⟨_, rfl⟩
  have hP : va_P D vwCl (NW cy aN v1 v2 G v3) H := by rw [hHe]; exact hP
  have hS : va_S A s.heap H locs := by rw [hHe, hLe]; exact hS
  have goal0 : W p l e (RM 2 50) s m args below meth c H locs 0 0 Q (F0 m 0 ls []) := by
    refine lv_aload_n hx hb dX3_able_0 rfl (lv_at hl 0 rfl) ?_
    refine va_get (ci := 3) (v := .ref (aN 1 0)) (C := RX3) (T := TX3) (N := 4) hx hb hts inw_X3 hown hK.1 hP 0 rfl rfl 0 (by decide) fl_12 (fun _ h9 => h9) rfl dX3_able_1 ?_
    refine lv_iload_n hx hb dX3_able_4 rfl (lv_at hl 1 rfl) ?_
    obtain ⟨x1, hc1, hc⟩ := b1_some hc
    refine gc_VI (n := 1) (q0 := 0) (ci := 0) (w' := NW cy aN v1 v2 G v3) hx hb hml hown hts hK hP hD hS hA hl.1 ⟨Nat.le_refl _, Nat.le_refl _⟩ (C_X0_isWell l D cy (aN 1) v1 p1 x1 hc1) gX3_able_X0_isWell rfl (by decide +kernel) rfl ⟨by decide, by decide⟩ (Jn.perm NW_now NW_now) rfl rfl rfl (Nat.le_of_ble_eq_true rfl) dX3_able_5 (fun H locs hP hD hS => ?_)
    refine lv_if_eq (tgt := 25) hx hb dX3_able_8 (by decide) (fun c2 => ?_) (fun c2 => ?_)
    · replace hc := ite_t c2 hc
      refine lv_iconst (v := (-1)) hx hb dX3_able_25 (by decide) ?_
      exact hend H locs _ _ _ _ _ _ _ (some_fst hc) (some_snd hc) rfl hP hD hS dX3_able_26
    · replace hc := ite_f c2 hc
      refine lv_aload_n hx hb dX3_able_11 rfl (lv_at hl 0 rfl) ?_
      refine va_get (ci := 3) (v := .ref (aN 1 0)) (C := RX3) (T := TX3) (N := 4) hx hb hts inw_X3 hown hK.1 hP 0 rfl rfl 0 (by decide) fl_12 (fun _ h9 => h9) rfl dX3_able_12 ?_
      refine lv_iload_n hx hb dX3_able_15 rfl (lv_at hl 1 rfl) ?_
      refine lv_sipush (v := 12000) hx hb dX3_able_16 (by decide +kernel) ?_
      obtain ⟨x3, v13, hc3, hc⟩ := b2_some hc
      refine gc_VI (n := 2) (q0 := 0) (ci := 0) (w' := NW cy aN v13 v2 G v3) hx hb hml hown hts hK hP hD hS hA hl.1 ⟨Nat.le_refl _, Nat.le_refl _⟩ (C_X0_shareOut l D cy (aN 1) v1 p1 12000 x3 v13 hc3) gX3_able_X0_shareOut rfl (by decide +kernel) rfl ⟨by decide, by decide⟩ (Jn.perm NW_now NW_now) rfl rfl rfl (Nat.le_of_ble_eq_true rfl) dX3_able_19 (fun H locs hP hD hS => ?_)
      refine lv_goto (tgt := 26) hx hb dX3_able_22 (by decide) ?_
      exact hend H locs _ _ _ _ _ _ _ (some_fst hc) (some_snd hc) rfl hP hD hS dX3_able_26
  rw [hHe, hLe] at goal0
  exact goal0
set_option maxHeartbeats 4000000 in
set_option maxRecDepth 100000 in
theorem C_X3_gives (l : Launch) (D : va_G) (cy : Nat → ClassId) (aN : Nat → Nat → Nat) (v1 : FV) (v2 : FV) (G : (Nat → FV)) (v3 : FV) (p1 : Int32) (p2 : Int32) (p3 : Int32) (r : Int32) (v1' : FV) (v2' : FV) (G' : (Nat → FV)) (v3' : FV) (hc : f_X3_gives v1 v2 G v3 p1 p2 p3 = some (r, (v1', v2', G', v3'))) : ConI l yX3_gives wsX3_gives 2 50 D cy (fun (u : FV × FV × (Nat → FV) × FV) => NW cy aN u.1 u.2.1 u.2.2.1 u.2.2.2) [.ref (aN 0 0), .int p1, .int p2, .int p3] ((v1, v2, G, v3)) ((v1', v2', G', v3')) r := by
  refine bodyI (cc := cX3_gives) (maxL := 4) (ty := .int) (by decide +kernel) rfl (Nat.le_of_ble_eq_true rfl) ?_
  intro p e s m args below meth c A Q hx hb hml hts hown hK hP hD hA hS hend ls hl
  have hown : s.vm.findClass RX3 = some m.cls := hown
  have hP : va_P D vwCl (NW cy aN v1 v2 G v3) s.heap := hP
  have hD : va_D A (NW cy aN v1 v2 G v3) := hD
  have hl : lv_has ls 4 [(0, .ref (aN 0 0)), (1, .int p1), (2, .int p2), (3, .int p3)] := hl
  have hend : ∀ (H : Heap) (locs : List Loc) (pc : Nat) (ls : Array Slot) (v : Int32) (v1 : FV) (v2 : FV) (G : (Nat → FV)) (v3 : FV), v = r → (v1, v2, G, v3) = (v1', v2', G', v3') → narrow .int (.int v) = .int v → va_P D vwCl (NW cy aN v1 v2 G v3) H → va_D A (NW cy aN v1 v2 G v3) → va_S A s.heap H locs → decode cX3_gives pc = .ok (.ireturn, 1) → W p l e (RM 2 50) s m args below meth c H locs 0 0 Q (F0 m pc ls [.int v]) := fun H locs pc ls v v1 v2 G v3 h1 h2 h3 h4 h5 h6 h7 => hend H locs pc ls v ((v1, v2, G, v3)) h1 h2 h3 h4 h5 h6 h7
  have fl_12 := hts (.fieldLink RX3 12 "NoonWells" "now" "LNoonWells$Field;") (by decide +kernel)
  have inw_X3 := (by decide +kernel : ∀ w ∈ u_ws RX3 TX3 4, w ∈ wsX3_gives)
  have inw_X0 := (by decide +kernel : ∀ w ∈ u_ws RX0 TX0 10, w ∈ wsX3_gives)
  obtain ⟨H, hHe⟩ : ∃ H : Heap, H = s.heap := ⟨_, rfl⟩
  obtain ⟨locs, hLe⟩ : ∃ x : List Loc, x = [] := ⟨_, rfl⟩
  have hP : va_P D vwCl (NW cy aN v1 v2 G v3) H := by rw [hHe]; exact hP
  have hS : va_S A s.heap H locs := by rw [hHe, hLe]; exact hS
  have goal0 : W p l e (RM 2 50) s m args below meth c H locs 0 0 Q (F0 m 0 ls []) := by
    refine lv_aload_n hx hb dX3_gives_0 rfl (lv_at hl 0 rfl) ?_
    refine va_get (ci := 3) (v := .ref (aN 1 0)) (C := RX3) (T := TX3) (N := 4) hx hb hts inw_X3 hown hK.1 hP 0 rfl rfl 0 (by decide) fl_12 (fun _ h9 => h9) rfl dX3_gives_1 ?_
    refine lv_iload_n hx hb dX3_gives_4 rfl (lv_at hl 1 rfl) ?_
    obtain ⟨x1, hc1, hc⟩ := b1_some hc
    refine gc_VI (n := 1) (q0 := 0) (ci := 0) (w' := NW cy aN v1 v2 G v3) hx hb hml hown hts hK hP hD hS hA hl.1 ⟨Nat.le_refl _, Nat.le_refl _⟩ (C_X0_isWell l D cy (aN 1) v1 p1 x1 hc1) gX3_gives_X0_isWell rfl (by decide +kernel) rfl ⟨by decide, by decide⟩ (Jn.perm NW_now NW_now) rfl rfl rfl (Nat.le_of_ble_eq_true rfl) dX3_gives_5 (fun H locs hP hD hS => ?_)
    refine lv_if_eq (tgt := 29) hx hb dX3_gives_8 (by decide) (fun c2 => ?_) (fun c2 => ?_)
    · replace hc := ite_t c2 hc
      refine lv_iconst (v := (-1)) hx hb dX3_gives_29 (by decide) ?_
      exact hend H locs _ _ _ _ _ _ _ (some_fst hc) (some_snd hc) rfl hP hD hS dX3_gives_30
    · replace hc := ite_f c2 hc
      refine lv_iload_n hx hb dX3_gives_11 rfl (lv_at hl 2 rfl) ?_
      obtain ⟨x3, hc3, hc⟩ := b1_some hc
      refine gc_SI (n := 1) (w' := NW cy aN v1 v2 G v3) hx hb hml hown hts hK hP hD hS hA hl.1 ⟨Nat.le_refl _, Nat.le_refl _⟩ (C_X3_areBuckets l D cy p2 x3 hc3) gX3_gives_X3_areBuckets rfl (by decide +kernel) rfl ⟨by decide, by decide⟩ Jn.none rfl (Nat.le_of_ble_eq_true rfl) dX3_gives_12 (fun H locs hP hD hS => ?_)
      refine lv_if_eq (tgt := 29) hx hb dX3_gives_15 (by decide) (fun c4 => ?_) (fun c4 => ?_)
      · replace hc := ite_t c4 hc
        refine lv_iconst (v := (-1)) hx hb dX3_gives_29 (by decide) ?_
        exact hend H locs _ _ _ _ _ _ _ (some_fst hc) (some_snd hc) rfl hP hD hS dX3_gives_30
      · replace hc := ite_f c4 hc
        refine lv_aload_n hx hb dX3_gives_18 rfl (lv_at hl 0 rfl) ?_
        refine va_get (ci := 3) (v := .ref (aN 1 0)) (C := RX3) (T := TX3) (N := 4) hx hb hts inw_X3 hown hK.1 hP 0 rfl rfl 0 (by decide) fl_12 (fun _ h9 => h9) rfl dX3_gives_19 ?_
        refine lv_iload_n hx hb dX3_gives_22 rfl (lv_at hl 3 rfl) ?_
        obtain ⟨x5, hc5, hc⟩ := b1_some hc
        refine gc_VI (n := 1) (q0 := 0) (ci := 0) (w' := NW cy aN v1 v2 G v3) hx hb hml hown hts hK hP hD hS hA hl.1 ⟨Nat.le_refl _, Nat.le_refl _⟩ (C_X0_isWell l D cy (aN 1) v1 p3 x5 hc5) gX3_gives_X0_isWell rfl (by decide +kernel) rfl ⟨by decide, by decide⟩ (Jn.perm NW_now NW_now) rfl rfl rfl (Nat.le_of_ble_eq_true rfl) dX3_gives_23 (fun H locs hP hD hS => ?_)
        refine lv_if_ne (tgt := 31) hx hb dX3_gives_26 (by decide) (fun c6 => ?_) (fun c6 => ?_)
        · replace hc := ite_f c6 hc
          refine lv_aload_n hx hb dX3_gives_31 rfl (lv_at hl 0 rfl) ?_
          refine va_get (ci := 3) (v := .ref (aN 1 0)) (C := RX3) (T := TX3) (N := 4) hx hb hts inw_X3 hown hK.1 hP 0 rfl rfl 0 (by decide) fl_12 (fun _ h9 => h9) rfl dX3_gives_32 ?_
          refine lv_iload_n hx hb dX3_gives_35 rfl (lv_at hl 1 rfl) ?_
          refine lv_iload_n hx hb dX3_gives_36 rfl (lv_at hl 2 rfl) ?_
          obtain ⟨x7, v17, hc7, hc⟩ := b2_some hc
          refine gc_VI (n := 2) (q0 := 0) (ci := 0) (w' := NW cy aN v17 v2 G v3) hx hb hml hown hts hK hP hD hS hA hl.1 ⟨Nat.le_refl _, Nat.le_refl _⟩ (C_X0_shareOut l D cy (aN 1) v1 p1 p2 x7 v17 hc7) gX3_gives_X0_shareOut rfl (by decide +kernel) rfl ⟨by decide, by decide⟩ (Jn.perm NW_now NW_now) rfl rfl rfl (Nat.le_of_ble_eq_true rfl) dX3_gives_37 (fun H locs hP hD hS => ?_)
          refine lv_iload_n hx hb dX3_gives_40 rfl (lv_at hl 2 rfl) ?_
          refine lv_icmp_ne (tgt := 56) hx hb dX3_gives_41 (by decide) (fun c8 => ?_) (fun c8 => ?_)
          · replace hc := ite_f c8 hc
            refine lv_bipush (v := (-2)) hx hb dX3_gives_56 (by decide +kernel) ?_
            exact hend H locs _ _ _ _ _ _ _ (some_fst hc) (some_snd hc) rfl hP hD hS dX3_gives_58
          · replace hc := ite_t c8 hc
            refine lv_aload_n hx hb dX3_gives_44 rfl (lv_at hl 0 rfl) ?_
            refine va_get (ci := 3) (v := .ref (aN 1 0)) (C := RX3) (T := TX3) (N := 4) hx hb hts inw_X3 hown hK.1 hP 0 rfl rfl 0 (by decide) fl_12 (fun _ h9 => h9) rfl dX3_gives_45 ?_
            refine va_getN (ci := 0) (v := .ref (aN 1 5)) (C := RX0) (T := TX0) (N := 10) hx hb hts inw_X0 hown hK.1 hP 1 rfl rfl 4 (by decide) (va_Nw.use rfl (hK.2 (.fieldLinkNest "NoonWells" 102 "NoonWells$Field" "shares" "[I" "NoonWells") (by decide +kernel))) (fun _ h9 => h9) rfl dX3_gives_48 ?_
            refine lv_iload_n hx hb dX3_gives_51 rfl (lv_at hl 3 rfl) ?_
            obtain ⟨x9, hi9, hv9, hc⟩ := rd_some hc
            refine g_iald (x := x9) hx hb hK hP 6 rfl hi9 hv9 dX3_gives_52 ?_
            refine lv_goto (tgt := 58) hx hb dX3_gives_53 (by decide) ?_
            exact hend H locs _ _ _ _ _ _ _ (some_fst hc) (some_snd hc) rfl hP hD hS dX3_gives_58
        · replace hc := ite_t c6 hc
          refine lv_iconst (v := (-1)) hx hb dX3_gives_29 (by decide) ?_
          exact hend H locs _ _ _ _ _ _ _ (some_fst hc) (some_snd hc) rfl hP hD hS dX3_gives_30
  rw [hHe, hLe] at goal0
  exact goal0
