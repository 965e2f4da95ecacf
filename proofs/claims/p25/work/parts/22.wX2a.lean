set_option maxHeartbeats 4000000 in
set_option maxRecDepth 100000 in
theorem C_X0_copyFrom (l : Launch) (D : va_G) (cy : Nat → ClassId) (a b : Nat → Nat) (U : FV) (V : FV) (V' : FV) (hc : f_X0_copyFrom V U = some V') : ConV l yX0_copyFrom wsX0_copyFrom 2 123 D cy (fun (u : FV) => FW cy a u ++ FW cy b U) [.ref (a 0), .ref (b 0)] V V' := by
  refine bodyV (cc := cX0_copyFrom) (maxL := 2) (by decide +kernel) rfl (Nat.le_of_ble_eq_true rfl) ?_
  intro p e s m args below meth c A Q hx hb hml hts hown hK hP hD hA hS hend ls hl
  have hown : s.vm.findClass RX0 = some m.cls := hown
  have hP : va_P D vwCl (FW cy a V ++ FW cy b U) s.heap := hP
  have hD : va_D A (FW cy a V ++ FW cy b U) := hD
  have hl : lv_has ls 2 [(0, .ref (a 0)), (1, .ref (b 0))] := hl
  have hend : ∀ (H : Heap) (locs : List Loc) (pc : Nat) (ls : Array Slot) (V : FV), V = V' → va_P D vwCl (FW cy a V ++ FW cy b U) H → va_D A (FW cy a V ++ FW cy b U) → va_S A s.heap H locs → decode cX0_copyFrom pc = .ok (.return_, 1) → W p l e (RM 2 123) s m args below meth c H locs 0 0 Q (F0 m pc ls []) := fun H locs pc ls V h1 h2 h3 h4 h5 => hend H locs pc ls V h1 h2 h3 h4 h5
  have fl_11 := hts (.fieldLink RX0 11 "NoonWells$Field" "wells" "[[I") (by decide +kernel)
  have inw_X0 := (by decide +kernel : ∀ w ∈ u_ws RX0 TX0 10, w ∈ wsX0_copyFrom)
  have fl_16 := hts (.fieldLink RX0 16 "NoonWells$Field" "droughts" "[[I") (by decide +kernel)
  have fl_19 := hts (.fieldLink RX0 19 "NoonWells$Field" "requests" "[[I") (by decide +kernel)
  have fl_22 := hts (.fieldLink RX0 22 "NoonWells$Field" "settings" "[I") (by decide +kernel)
  have fl_33 := hts (.fieldLink RX0 33 "NoonWells$Field" "wellCount" "I") (by decide +kernel)
  have fl_37 := hts (.fieldLink RX0 37 "NoonWells$Field" "droughtCount" "I") (by decide +kernel)
  have fl_40 := hts (.fieldLink RX0 40 "NoonWells$Field" "waiting" "I") (by decide +kernel)
  have fl_43 := hts (.fieldLink RX0 43 "NoonWells$Field" "time" "I") (by decide +kernel)
  have fl_46 := hts (.fieldLink RX0 46 "NoonWells$Field" "drawnBehindWaiting" "I") (by decide +kernel)
  obtain ⟨H, hHe⟩ : ∃ H : Heap, H = s.heap := ⟨_, rfl⟩
  obtain ⟨locs, hLe⟩ : ∃ x : List Loc, x = [] := ⟨_, rfl⟩
  have hP : va_P D vwCl (FW cy a V ++ FW cy b U) H := by rw [hHe]; exact hP
  have hS : va_S A s.heap H locs := by rw [hHe, hLe]; exact hS
  have goal0 : W p l e (RM 2 123) s m args below meth c H locs 0 0 Q (F0 m 0 ls []) := by
    refine lv_aload_n hx hb dX0_copyFrom_0 rfl (lv_at hl 1 rfl) ?_
    refine va_get (ci := 0) (v := .ref (b 1)) (C := RX0) (T := TX0) (N := 10) hx hb hts inw_X0 hown hK.1 hP 25 rfl rfl 0 (by decide) fl_11 (fun _ h9 => h9) rfl dX0_copyFrom_1 ?_
    refine lv_aload_n hx hb dX0_copyFrom_4 rfl (lv_at hl 0 rfl) ?_
    refine va_get (ci := 0) (v := .ref (a 1)) (C := RX0) (T := TX0) (N := 10) hx hb hts inw_X0 hown hK.1 hP 0 rfl rfl 0 (by decide) fl_11 (fun _ h9 => h9) rfl dX0_copyFrom_5 ?_
    obtain ⟨V1, eV1, hc⟩ := lt1_some hc
    refine gc_SV (n := 2) (w' := FW cy a V1 ++ FW cy b U) hx hb hml hown hts hK hP hD hS hA hl.1 ⟨Nat.le_refl _, Nat.le_refl _⟩ (C_X0_copyRows l D cy 13 12 (b 1) (a 1) (fun i => b (6 + i)) (fun i => a (6 + i)) (fun i => U (6 + i)) (fun i => V (6 + i)) (by decide) (by decide)) gX0_copyFrom_X0_copyRows rfl (by decide +kernel) rfl ⟨by decide, by decide⟩ (by rw [← eV1]; exact J_w) rfl (Nat.le_of_ble_eq_true rfl) dX0_copyFrom_8 (fun H locs hP hD hS => ?_)
    refine lv_aload_n hx hb dX0_copyFrom_11 rfl (lv_at hl 1 rfl) ?_
    refine va_get (ci := 0) (v := .ref (b 2)) (C := RX0) (T := TX0) (N := 10) hx hb hts inw_X0 hown hK.1 hP 25 rfl rfl 1 (by decide) fl_16 (fun _ h9 => h9) rfl dX0_copyFrom_12 ?_
    refine lv_aload_n hx hb dX0_copyFrom_15 rfl (lv_at hl 0 rfl) ?_
    refine va_get (ci := 0) (v := .ref (a 2)) (C := RX0) (T := TX0) (N := 10) hx hb hts inw_X0 hown hK.1 hP 0 rfl rfl 1 (by decide) fl_16 (fun _ h9 => h9) rfl dX0_copyFrom_16 ?_
    obtain ⟨V2, eV2, hc⟩ := lt1_some hc
    refine gc_SV (n := 2) (w' := FW cy a V2 ++ FW cy b U) hx hb hml hown hts hK hP hD hS hA hl.1 ⟨Nat.le_refl _, Nat.le_refl _⟩ (C_X0_copyRows l D cy 3 20 (b 2) (a 2) (fun i => b (19 + i)) (fun i => a (19 + i)) (fun i => U (19 + i)) (fun i => V1 (19 + i)) (by decide) (by decide)) gX0_copyFrom_X0_copyRows rfl (by decide +kernel) rfl ⟨by decide, by decide⟩ (by rw [← eV2]; exact J_d) rfl (Nat.le_of_ble_eq_true rfl) dX0_copyFrom_19 (fun H locs hP hD hS => ?_)
    refine lv_aload_n hx hb dX0_copyFrom_22 rfl (lv_at hl 1 rfl) ?_
    refine va_get (ci := 0) (v := .ref (b 3)) (C := RX0) (T := TX0) (N := 10) hx hb hts inw_X0 hown hK.1 hP 25 rfl rfl 2 (by decide) fl_19 (fun _ h9 => h9) rfl dX0_copyFrom_23 ?_
    refine lv_aload_n hx hb dX0_copyFrom_26 rfl (lv_at hl 0 rfl) ?_
    refine va_get (ci := 0) (v := .ref (a 3)) (C := RX0) (T := TX0) (N := 10) hx hb hts inw_X0 hown hK.1 hP 0 rfl rfl 2 (by decide) fl_19 (fun _ h9 => h9) rfl dX0_copyFrom_27 ?_
    obtain ⟨V3, eV3, hc⟩ := lt1_some hc
    refine gc_SV (n := 2) (w' := FW cy a V3 ++ FW cy b U) hx hb hml hown hts hK hP hD hS hA hl.1 ⟨Nat.le_refl _, Nat.le_refl _⟩ (C_X0_copyRows l D cy 3 8 (b 3) (a 3) (fun i => b (22 + i)) (fun i => a (22 + i)) (fun i => U (22 + i)) (fun i => V2 (22 + i)) (by decide) (by decide)) gX0_copyFrom_X0_copyRows rfl (by decide +kernel) rfl ⟨by decide, by decide⟩ (by rw [← eV3]; exact J_r) rfl (Nat.le_of_ble_eq_true rfl) dX0_copyFrom_30 (fun H locs hP hD hS => ?_)
    refine lv_aload_n hx hb dX0_copyFrom_33 rfl (lv_at hl 0 rfl) ?_
    refine va_get (ci := 0) (v := .ref (a 4)) (C := RX0) (T := TX0) (N := 10) hx hb hts inw_X0 hown hK.1 hP 0 rfl rfl 3 (by decide) fl_22 (fun _ h9 => h9) rfl dX0_copyFrom_34 ?_
    refine lv_iconst (v := 0) hx hb dX0_copyFrom_37 (by decide) ?_
    refine lv_aload_n hx hb dX0_copyFrom_38 rfl (lv_at hl 1 rfl) ?_
    refine va_get (ci := 0) (v := .ref (b 4)) (C := RX0) (T := TX0) (N := 10) hx hb hts inw_X0 hown hK.1 hP 25 rfl rfl 3 (by decide) fl_22 (fun _ h9 => h9) rfl dX0_copyFrom_39 ?_
    refine lv_iconst (v := 0) hx hb dX0_copyFrom_42 (by decide) ?_
    refine g_iald (x := U 4 0) hx hb hK hP 29 rfl (vp_lit (by decide)) rfl dX0_copyFrom_43 ?_
    obtain ⟨V4, eV4, hc⟩ := lt1_some hc
    refine g_iast (w' := FW cy a V4 ++ FW cy b U) hx hb hK hP hD hS 4 rfl (vp_lit (by decide)) (by rw [← eV4]; rfl) dX0_copyFrom_44 (fun H locs hP hD hS => ?_)
    refine lv_aload_n hx hb dX0_copyFrom_45 rfl (lv_at hl 0 rfl) ?_
    refine va_get (ci := 0) (v := .ref (a 4)) (C := RX0) (T := TX0) (N := 10) hx hb hts inw_X0 hown hK.1 hP 0 rfl rfl 3 (by decide) fl_22 (fun _ h9 => h9) rfl dX0_copyFrom_46 ?_
    refine lv_iconst (v := 1) hx hb dX0_copyFrom_49 (by decide) ?_
    refine lv_aload_n hx hb dX0_copyFrom_50 rfl (lv_at hl 1 rfl) ?_
    refine va_get (ci := 0) (v := .ref (b 4)) (C := RX0) (T := TX0) (N := 10) hx hb hts inw_X0 hown hK.1 hP 25 rfl rfl 3 (by decide) fl_22 (fun _ h9 => h9) rfl dX0_copyFrom_51 ?_
    refine lv_iconst (v := 1) hx hb dX0_copyFrom_54 (by decide) ?_
    refine g_iald (x := U 4 1) hx hb hK hP 29 rfl (vp_lit (by decide)) rfl dX0_copyFrom_55 ?_
    obtain ⟨V5, eV5, hc⟩ := lt1_some hc
    refine g_iast (w' := FW cy a V5 ++ FW cy b U) hx hb hK hP hD hS 4 rfl (vp_lit (by decide)) (by rw [← eV5]; rfl) dX0_copyFrom_56 (fun H locs hP hD hS => ?_)
    refine lv_aload_n hx hb dX0_copyFrom_57 rfl (lv_at hl 0 rfl) ?_
    refine lv_aload_n hx hb dX0_copyFrom_58 rfl (lv_at hl 1 rfl) ?_
    refine va_get (ci := 0) (v := .int (U 0 0)) (C := RX0) (T := TX0) (N := 10) hx hb hts inw_X0 hown hK.1 hP 25 rfl rfl 5 (by decide) fl_33 (fun _ h9 => h9) rfl dX0_copyFrom_59 ?_
    obtain ⟨V6, eV6, hc⟩ := lt1_some hc
    refine g_put (ci := 0) (C := RX0) (T := TX0) (N := 10) (w' := FW cy a V6 ++ FW cy b U) hx hb hts inw_X0 tyX0 tyX0_ok nmX0 hown hK hP hD hS 0 rfl rfl 5 (by decide) fl_33 (fun _ h9 => h9) rfl (by decide +kernel) (Nat.le_of_ble_eq_true rfl) (by rw [← eV6]; rfl) dX0_copyFrom_62 (fun H locs hP hD hS => ?_)
    refine lv_aload_n hx hb dX0_copyFrom_65 rfl (lv_at hl 0 rfl) ?_
    refine lv_aload_n hx hb dX0_copyFrom_66 rfl (lv_at hl 1 rfl) ?_
    refine va_get (ci := 0) (v := .int (U 0 1)) (C := RX0) (T := TX0) (N := 10) hx hb hts inw_X0 hown hK.1 hP 25 rfl rfl 6 (by decide) fl_37 (fun _ h9 => h9) rfl dX0_copyFrom_67 ?_
    obtain ⟨V7, eV7, hc⟩ := lt1_some hc
    refine g_put (ci := 0) (C := RX0) (T := TX0) (N := 10) (w' := FW cy a V7 ++ FW cy b U) hx hb hts inw_X0 tyX0 tyX0_ok nmX0 hown hK hP hD hS 0 rfl rfl 6 (by decide) fl_37 (fun _ h9 => h9) rfl (by decide +kernel) (Nat.le_of_ble_eq_true rfl) (by rw [← eV7]; rfl) dX0_copyFrom_70 (fun H locs hP hD hS => ?_)
    refine lv_aload_n hx hb dX0_copyFrom_73 rfl (lv_at hl 0 rfl) ?_
    refine lv_aload_n hx hb dX0_copyFrom_74 rfl (lv_at hl 1 rfl) ?_
    refine va_get (ci := 0) (v := .int (U 0 2)) (C := RX0) (T := TX0) (N := 10) hx hb hts inw_X0 hown hK.1 hP 25 rfl rfl 7 (by decide) fl_40 (fun _ h9 => h9) rfl dX0_copyFrom_75 ?_
    obtain ⟨V8, eV8, hc⟩ := lt1_some hc
    refine g_put (ci := 0) (C := RX0) (T := TX0) (N := 10) (w' := FW cy a V8 ++ FW cy b U) hx hb hts inw_X0 tyX0 tyX0_ok nmX0 hown hK hP hD hS 0 rfl rfl 7 (by decide) fl_40 (fun _ h9 => h9) rfl (by decide +kernel) (Nat.le_of_ble_eq_true rfl) (by rw [← eV8]; rfl) dX0_copyFrom_78 (fun H locs hP hD hS => ?_)
    refine lv_aload_n hx hb dX0_copyFrom_81 rfl (lv_at hl 0 rfl) ?_
    refine lv_aload_n hx hb dX0_copyFrom_82 rfl (lv_at hl 1 rfl) ?_
    refine va_get (ci := 0) (v := .int (U 0 3)) (C := RX0) (T := TX0) (N := 10) hx hb hts inw_X0 hown hK.1 hP 25 rfl rfl 8 (by decide) fl_43 (fun _ h9 => h9) rfl dX0_copyFrom_83 ?_
    obtain ⟨V9, eV9, hc⟩ := lt1_some hc
    refine g_put (ci := 0) (C := RX0) (T := TX0) (N := 10) (w' := FW cy a V9 ++ FW cy b U) hx hb hts inw_X0 tyX0 tyX0_ok nmX0 hown hK hP hD hS 0 rfl rfl 8 (by decide) fl_43 (fun _ h9 => h9) rfl (by decide +kernel) (Nat.le_of_ble_eq_true rfl) (by rw [← eV9]; rfl) dX0_copyFrom_86 (fun H locs hP hD hS => ?_)
    refine lv_aload_n hx hb dX0_copyFrom_89 rfl (lv_at hl 0 rfl) ?_
    refine lv_aload_n hx hb dX0_copyFrom_90 rfl (lv_at hl 1 rfl) ?_
    refine va_get (ci := 0) (v := .int (U 0 4)) (C := RX0) (T := TX0) (N := 10) hx hb hts inw_X0 hown hK.1 hP 25 rfl rfl 9 (by decide) fl_46 (fun _ h9 => h9) rfl dX0_copyFrom_91 ?_
    obtain ⟨V10, eV10, hc⟩ := lt1_some hc
    refine g_put (ci := 0) (C := RX0) (T := TX0) (N := 10) (w' := FW cy a V10 ++ FW cy b U) hx hb hts inw_X0 tyX0 tyX0_ok nmX0 hown hK hP hD hS 0 rfl rfl 9 (by decide) fl_46 (fun _ h9 => h9) rfl (by decide +kernel) (Nat.le_of_ble_eq_true rfl) (by rw [← eV10]; rfl) dX0_copyFrom_94 (fun H locs hP hD hS => ?_)
    exact hend H locs _ _ _ (some_one hc) hP hD hS dX0_copyFrom_97
  rw [hHe, hLe] at goal0
  exact goal0
set_option maxHeartbeats 4000000 in
set_option maxRecDepth 100000 in
theorem C_X1_keep (l : Launch) (D : va_G) (cy : Nat → ClassId) (aa : Nat → Nat → Nat) (G : (Nat → FV)) (G' : (Nat → FV)) (hc : f_X1_keep G = some G') : ConV l yX1_keep wsX1_keep 0 0 D cy (HW cy aa) [.ref (aa 0 0)] G G' := by
  refine bodyV (cc := cX1_keep) (maxL := 1) (by decide +kernel) rfl (Nat.le_of_ble_eq_true rfl) ?_
  intro p e s m args below meth c A Q hx hb hml hts hown hK hP hD hA hS hend ls hl
  have hown : s.vm.findClass RX1 = some m.cls := hown
  have hP : va_P D vwCl (HW cy aa G) s.heap := hP
  have hD : va_D A (HW cy aa G) := hD
  have hl : lv_has ls 1 [(0, .ref (aa 0 0))] := hl
  have hend : ∀ (H : Heap) (locs : List Loc) (pc : Nat) (ls : Array Slot) (G : (Nat → FV)), G = G' → va_P D vwCl (HW cy aa G) H → va_D A (HW cy aa G) → va_S A s.heap H locs → decode cX1_keep pc = .ok (.return_, 1) → W p l e (RM 0 0) s m args below meth c H locs 0 0 Q (F0 m pc ls []) := fun H locs pc ls G h1 h2 h3 h4 h5 => hend H locs pc ls G h1 h2 h3 h4 h5
  have fl_22 := hts (.fieldLink RX1 22 "NoonWells$History" "size" "I") (by decide +kernel)
  have inw_X1 := (by decide +kernel : ∀ w ∈ u_ws RX1 TX1 3, w ∈ wsX1_keep)
  have fl_18 := hts (.fieldLink RX1 18 "NoonWells$History" "oldest" "I") (by decide +kernel)
  obtain ⟨H, hHe⟩ : ∃ H : Heap, H = s.heap := ⟨_, rfl⟩
  obtain ⟨locs, hLe⟩ : ∃ x : List Loc, x = [] := ⟨_, rfl⟩
  have hP : va_P D vwCl (HW cy aa G) H := by rw [hHe]; exact hP
  have hS : va_S A s.heap H locs := by rw [hHe, hLe]; exact hS
  have goal0 : W p l e (RM 0 0) s m args below meth c H locs 0 0 Q (F0 m 0 ls []) := by
    refine lv_aload_n hx hb dX1_keep_0 rfl (lv_at hl 0 rfl) ?_
    refine va_get (ci := 1) (v := .int (G 0 0 1)) (C := RX1) (T := TX1) (N := 3) hx hb hts inw_X1 hown hK.1 hP 0 rfl rfl 2 (by decide) fl_22 (fun _ h9 => h9) rfl dX1_keep_1 ?_
    refine lv_iconst (v := 4) hx hb dX1_keep_4 (by decide) ?_
    refine lv_icmp_ge (tgt := 21) hx hb dX1_keep_5 (by decide) (fun c1 => ?_) (fun c1 => ?_)
    · replace hc := ite_t c1 hc
      refine lv_aload_n hx hb dX1_keep_21 rfl (lv_at hl 0 rfl) ?_
      refine lv_aload_n hx hb dX1_keep_22 rfl (lv_at hl 0 rfl) ?_
      refine va_get (ci := 1) (v := .int (G 0 0 0)) (C := RX1) (T := TX1) (N := 3) hx hb hts inw_X1 hown hK.1 hP 0 rfl rfl 1 (by decide) fl_18 (fun _ h9 => h9) rfl dX1_keep_23 ?_
      refine lv_iconst (v := 1) hx hb dX1_keep_26 (by decide) ?_
      refine lv_iadd hx hb dX1_keep_27 ?_
      refine lv_iconst (v := 5) hx hb dX1_keep_28 (by decide) ?_
      refine lv_irem hx hb dX1_keep_29 (by decide) ?_
      obtain ⟨G2, eG2, hc⟩ := lt1_some hc
      refine g_put (ci := 1) (C := RX1) (T := TX1) (N := 3) (w' := HW cy aa G2) hx hb hts inw_X1 tyX1 tyX1_ok nmX1 hown hK hP hD hS 0 rfl rfl 1 (by decide) fl_18 (fun _ h9 => h9) rfl (by decide +kernel) (Nat.le_of_ble_eq_true rfl) (by rw [← eG2]; rfl) dX1_keep_30 (fun H locs hP hD hS => ?_)
      exact hend H locs _ _ _ (some_one hc) hP hD hS dX1_keep_33
    · replace hc := ite_f c1 hc
      refine lv_aload_n hx hb dX1_keep_8 rfl (lv_at hl 0 rfl) ?_
      refine lv_dup hx hb dX1_keep_9 rfl ?_
      refine va_get (ci := 1) (v := .int (G 0 0 1)) (C := RX1) (T := TX1) (N := 3) hx hb hts inw_X1 hown hK.1 hP 0 rfl rfl 2 (by decide) fl_22 (fun _ h9 => h9) rfl dX1_keep_10 ?_
      refine lv_iconst (v := 1) hx hb dX1_keep_13 (by decide) ?_
      refine lv_iadd hx hb dX1_keep_14 ?_
      obtain ⟨G3, eG3, hc⟩ := lt1_some hc
      refine g_put (ci := 1) (C := RX1) (T := TX1) (N := 3) (w' := HW cy aa G3) hx hb hts inw_X1 tyX1 tyX1_ok nmX1 hown hK hP hD hS 0 rfl rfl 2 (by decide) fl_22 (fun _ h9 => h9) rfl (by decide +kernel) (Nat.le_of_ble_eq_true rfl) (by rw [← eG3]; rfl) dX1_keep_15 (fun H locs hP hD hS => ?_)
      refine lv_goto (tgt := 33) hx hb dX1_keep_18 (by decide) ?_
      exact hend H locs _ _ _ (some_one hc) hP hD hS dX1_keep_33
  rw [hHe, hLe] at goal0
  exact goal0
set_option maxHeartbeats 4000000 in
set_option maxRecDepth 100000 in
theorem C_X1_note (l : Launch) (D : va_G) (cy : Nat → ClassId) (aa : Nat → Nat → Nat) (b : Nat → Nat) (G : (Nat → FV)) (V : FV) (G' : (Nat → FV)) (V' : FV) (hc : f_X1_note G V = some (G', V')) : ConV l yX1_note wsX1_note 3 144 D cy (fun (u : (Nat → FV) × FV) => HW cy aa u.1 ++ FW cy b u.2) [.ref (aa 0 0), .ref (b 0)] ((G, V)) ((G', V')) := by
  refine bodyV (cc := cX1_note) (maxL := 2) (by decide +kernel) rfl (Nat.le_of_ble_eq_true rfl) ?_
  intro p e s m args below meth c A Q hx hb hml hts hown hK hP hD hA hS hend ls hl
  have hown : s.vm.findClass RX1 = some m.cls := hown
  have hP : va_P D vwCl (HW cy aa G ++ FW cy b V) s.heap := hP
  have hD : va_D A (HW cy aa G ++ FW cy b V) := hD
  have hl : lv_has ls 2 [(0, .ref (aa 0 0)), (1, .ref (b 0))] := hl
  have hend : ∀ (H : Heap) (locs : List Loc) (pc : Nat) (ls : Array Slot) (G : (Nat → FV)) (V : FV), (G, V) = (G', V') → va_P D vwCl (HW cy aa G ++ FW cy b V) H → va_D A (HW cy aa G ++ FW cy b V) → va_S A s.heap H locs → decode cX1_note pc = .ok (.return_, 1) → W p l e (RM 3 144) s m args below meth c H locs 0 0 Q (F0 m pc ls []) := fun H locs pc ls G V h1 h2 h3 h4 h5 => hend H locs pc ls ((G, V)) h1 h2 h3 h4 h5
  have fl_13 := hts (.fieldLink RX1 13 "NoonWells$History" "states" "[LNoonWells$Field;") (by decide +kernel)
  have inw_X1 := (by decide +kernel : ∀ w ∈ u_ws RX1 TX1 3, w ∈ wsX1_note)
  have fl_18 := hts (.fieldLink RX1 18 "NoonWells$History" "oldest" "I") (by decide +kernel)
  have fl_22 := hts (.fieldLink RX1 22 "NoonWells$History" "size" "I") (by decide +kernel)
  obtain ⟨H, hHe⟩ : ∃ H : Heap, H = s.heap := ⟨_, rfl⟩
  obtain ⟨locs, hLe⟩ : ∃ x : List Loc, x = [] := ⟨_, rfl⟩
  have hP : va_P D vwCl (HW cy aa G ++ FW cy b V) H := by rw [hHe]; exact hP
  have hS : va_S A s.heap H locs := by rw [hHe, hLe]; exact hS
  have goal0 : W p l e (RM 3 144) s m args below meth c H locs 0 0 Q (F0 m 0 ls []) := by
    refine lv_aload_n hx hb dX1_note_0 rfl (lv_at hl 0 rfl) ?_
    refine va_get (ci := 1) (v := .ref (aa 0 1)) (C := RX1) (T := TX1) (N := 3) hx hb hts inw_X1 hown hK.1 hP 0 rfl rfl 0 (by decide) fl_13 (fun _ h9 => h9) rfl dX1_note_1 ?_
    refine lv_aload_n hx hb dX1_note_4 rfl (lv_at hl 0 rfl) ?_
    refine va_get (ci := 1) (v := .int (G 0 0 0)) (C := RX1) (T := TX1) (N := 3) hx hb hts inw_X1 hown hK.1 hP 0 rfl rfl 1 (by decide) fl_18 (fun _ h9 => h9) rfl dX1_note_5 ?_
    refine lv_aload_n hx hb dX1_note_8 rfl (lv_at hl 0 rfl) ?_
    refine va_get (ci := 1) (v := .int (G 0 0 1)) (C := RX1) (T := TX1) (N := 3) hx hb hts inw_X1 hown hK.1 hP 0 rfl rfl 2 (by decide) fl_22 (fun _ h9 => h9) rfl dX1_note_9 ?_
    refine lv_iadd hx hb dX1_note_12 ?_
    refine lv_iconst (v := 5) hx hb dX1_note_13 (by decide) ?_
    refine lv_irem hx hb dX1_note_14 (by decide) ?_
    obtain ⟨j1, hi1, hj1, hn1, hc⟩ := ix_some hc
    refine g_aaldF (v := aa (j1 + 1) 0) hx hb hK hP 1 rfl hi1 (by rw [hj1]; exact if_pos hn1) dX1_note_15 ?_
    refine lv_aload_n hx hb dX1_note_16 rfl (lv_at hl 1 rfl) ?_
    obtain ⟨X2, hc2, hc⟩ := b1_some hc
    refine gc_VV (n := 1) (q0 := 0) (ci := 0) (w' := HW cy aa (va_up G (j1 + 1) X2) ++ FW cy b V) hx hb hml hown hts hK hP hD hS hA hl.1 ⟨Nat.le_refl _, Nat.le_refl _⟩ (C_X0_copyFrom l D cy (aa (j1 + 1)) b V (G (j1 + 1)) X2 hc2) gX1_note_X0_copyFrom rfl (by decide +kernel) rfl ⟨by decide, by decide⟩ (J_slot hn1) rfl rfl rfl (Nat.le_of_ble_eq_true rfl) dX1_note_17 (fun H locs hP hD hS => ?_)
    exact hend H locs _ _ _ _ (some_one hc) hP hD hS dX1_note_20
  rw [hHe, hLe] at goal0
  exact goal0
set_option maxHeartbeats 4000000 in
set_option maxRecDepth 100000 in
theorem C_X1_giveBack (l : Launch) (D : va_G) (cy : Nat → ClassId) (aa : Nat → Nat → Nat) (b : Nat → Nat) (G : (Nat → FV)) (V : FV) (G' : (Nat → FV)) (V' : FV) (hc : f_X1_giveBack G V = some (G', V')) : ConV l yX1_giveBack wsX1_giveBack 3 144 D cy (fun (u : (Nat → FV) × FV) => HW cy aa u.1 ++ FW cy b u.2) [.ref (aa 0 0), .ref (b 0)] ((G, V)) ((G', V')) := by
  refine bodyV (cc := cX1_giveBack) (maxL := 2) (by decide +kernel) rfl (Nat.le_of_ble_eq_true rfl) ?_
  intro p e s m args below meth c A Q hx hb hml hts hown hK hP hD hA hS hend ls hl
  have hown : s.vm.findClass RX1 = some m.cls := hown
  have hP : va_P D vwCl (HW cy aa G ++ FW cy b V) s.heap := hP
  have hD : va_D A (HW cy aa G ++ FW cy b V) := hD
  have hl : lv_has ls 2 [(0, .ref (aa 0 0)), (1, .ref (b 0))] := hl
  have hend : ∀ (H : Heap) (locs : List Loc) (pc : Nat) (ls : Array Slot) (G : (Nat → FV)) (V : FV), (G, V) = (G', V') → va_P D vwCl (HW cy aa G ++ FW cy b V) H → va_D A (HW cy aa G ++ FW cy b V) → va_S A s.heap H locs → decode cX1_giveBack pc = .ok (.return_, 1) → W p l e (RM 3 144) s m args below meth c H locs 0 0 Q (F0 m pc ls []) := fun H locs pc ls G V h1 h2 h3 h4 h5 => hend H locs pc ls ((G, V)) h1 h2 h3 h4 h5
  have fl_22 := hts (.fieldLink RX1 22 "NoonWells$History" "size" "I") (by decide +kernel)
  have inw_X1 := (by decide +kernel : ∀ w ∈ u_ws RX1 TX1 3, w ∈ wsX1_giveBack)
  have fl_13 := hts (.fieldLink RX1 13 "NoonWells$History" "states" "[LNoonWells$Field;") (by decide +kernel)
  have fl_18 := hts (.fieldLink RX1 18 "NoonWells$History" "oldest" "I") (by decide +kernel)
  obtain ⟨H, hHe⟩ : ∃ H : Heap, H = s.heap := ⟨_, rfl⟩
  obtain ⟨locs, hLe⟩ : ∃ x : List Loc, x = [] := ⟨_, rfl⟩
  have hP : va_P D vwCl (HW cy aa G ++ FW cy b V) H := by rw [hHe]; exact hP
  have hS : va_S A s.heap H locs := by rw [hHe, hLe]; exact hS
  have goal0 : W p l e (RM 3 144) s m args below meth c H locs 0 0 Q (F0 m 0 ls []) := by
    refine lv_aload_n hx hb dX1_giveBack_0 rfl (lv_at hl 0 rfl) ?_
    refine va_get (ci := 1) (v := .int (G 0 0 1)) (C := RX1) (T := TX1) (N := 3) hx hb hts inw_X1 hown hK.1 hP 0 rfl rfl 2 (by decide) fl_22 (fun _ h9 => h9) rfl dX1_giveBack_1 ?_
    refine lv_if_le (tgt := 37) hx hb dX1_giveBack_4 (by decide) (fun c1 => ?_) (fun c1 => ?_)
    · replace hc := ite_t c1 hc
      exact hend H locs _ _ _ _ (some_one hc) hP hD hS dX1_giveBack_37
    · replace hc := ite_f c1 hc
      refine lv_aload_n hx hb dX1_giveBack_7 rfl (lv_at hl 0 rfl) ?_
      refine lv_dup hx hb dX1_giveBack_8 rfl ?_
      refine va_get (ci := 1) (v := .int (G 0 0 1)) (C := RX1) (T := TX1) (N := 3) hx hb hts inw_X1 hown hK.1 hP 0 rfl rfl 2 (by decide) fl_22 (fun _ h9 => h9) rfl dX1_giveBack_9 ?_
      refine lv_iconst (v := 1) hx hb dX1_giveBack_12 (by decide) ?_
      refine lv_isub hx hb dX1_giveBack_13 ?_
      obtain ⟨G2, eG2, hc⟩ := lt1_some hc
      refine g_put (ci := 1) (C := RX1) (T := TX1) (N := 3) (w' := HW cy aa G2 ++ FW cy b V) hx hb hts inw_X1 tyX1 tyX1_ok nmX1 hown hK hP hD hS 0 rfl rfl 2 (by decide) fl_22 (fun _ h9 => h9) rfl (by decide +kernel) (Nat.le_of_ble_eq_true rfl) (by rw [← eG2]; rfl) dX1_giveBack_14 (fun H locs hP hD hS => ?_)
      refine lv_aload_n hx hb dX1_giveBack_17 rfl (lv_at hl 1 rfl) ?_
      refine lv_aload_n hx hb dX1_giveBack_18 rfl (lv_at hl 0 rfl) ?_
      refine va_get (ci := 1) (v := .ref (aa 0 1)) (C := RX1) (T := TX1) (N := 3) hx hb hts inw_X1 hown hK.1 hP 0 rfl rfl 0 (by decide) fl_13 (fun _ h9 => h9) rfl dX1_giveBack_19 ?_
      refine lv_aload_n hx hb dX1_giveBack_22 rfl (lv_at hl 0 rfl) ?_
      refine va_get (ci := 1) (v := .int (G2 0 0 0)) (C := RX1) (T := TX1) (N := 3) hx hb hts inw_X1 hown hK.1 hP 0 rfl rfl 1 (by decide) fl_18 (fun _ h9 => h9) rfl dX1_giveBack_23 ?_
      refine lv_aload_n hx hb dX1_giveBack_26 rfl (lv_at hl 0 rfl) ?_
      refine va_get (ci := 1) (v := .int (G2 0 0 1)) (C := RX1) (T := TX1) (N := 3) hx hb hts inw_X1 hown hK.1 hP 0 rfl rfl 2 (by decide) fl_22 (fun _ h9 => h9) rfl dX1_giveBack_27 ?_
      refine lv_iadd hx hb dX1_giveBack_30 ?_
      refine lv_iconst (v := 5) hx hb dX1_giveBack_31 (by decide) ?_
      refine lv_irem hx hb dX1_giveBack_32 (by decide) ?_
      obtain ⟨j3, hi3, hj3, hn3, hc⟩ := ix_some hc
      refine g_aaldF (v := aa (j3 + 1) 0) hx hb hK hP 1 rfl hi3 (by rw [hj3]; exact if_pos hn3) dX1_giveBack_33 ?_
      obtain ⟨X4, hc4, hc⟩ := b1_some hc
      refine gc_VV (n := 1) (q0 := 0) (ci := 0) (w' := HW cy aa G2 ++ FW cy b X4) hx hb hml hown hts hK hP hD hS hA hl.1 ⟨Nat.le_refl _, Nat.le_refl _⟩ (C_X0_copyFrom l D cy b (aa (j3 + 1)) (G2 (j3 + 1)) V X4 hc4) gX1_giveBack_X0_copyFrom rfl (by decide +kernel) rfl ⟨by decide, by decide⟩ (J_slot2 hn3) rfl rfl rfl (Nat.le_of_ble_eq_true rfl) dX1_giveBack_34 (fun H locs hP hD hS => ?_)
      exact hend H locs _ _ _ _ (some_one hc) hP hD hS dX1_giveBack_37
  rw [hHe, hLe] at goal0
  exact goal0
set_option maxHeartbeats 4000000 in
set_option maxRecDepth 100000 in
theorem C_X2_numbersOf (l : Launch) (D : va_G) (cy : Nat → ClassId) (p0 : Int32) (r : Int32) (hc : f_X2_numbersOf p0 = some r) : ConI l yX2_numbersOf wsX2_numbersOf 0 0 D cy (fun (_ : Unit) => ([] : va_W)) [.int p0] (()) (()) r := by
  refine bodyI (cc := cX2_numbersOf) (maxL := 1) (ty := .int) (by decide +kernel) rfl (Nat.le_of_ble_eq_true rfl) ?_
  intro p e s m args below meth c A Q hx hb hml hts hown hK hP hD hA hS hend ls hl
  have hown : s.vm.findClass RX2 = some m.cls := hown
  have hP : va_P D vwCl (([] : va_W)) s.heap := hP
  have hD : va_D A (([] : va_W)) := hD
  have hl : lv_has ls 1 [(0, .int p0)] := hl
  have hend : ∀ (H : Heap) (locs : List Loc) (pc : Nat) (ls : Array Slot) (v : Int32), v = r → narrow .int (.int v) = .int v → va_P D vwCl (([] : va_W)) H → va_D A (([] : va_W)) → va_S A s.heap H locs → decode cX2_numbersOf pc = .ok (.ireturn, 1) → W p l e (RM 0 0) s m args below meth c H locs 0 0 Q (F0 m pc ls [.int v]) := fun H locs pc ls v h1 h3 h4 h5 h6 h7 => hend H locs pc ls v (()) h1 rfl h3 h4 h5 h6 h7
  obtain ⟨H, hHe⟩ : ∃ H : Heap, H = s.heap := ⟨_, rfl⟩
  obtain ⟨locs, hLe⟩ : ∃ x : List Loc, x = [] := ⟨_, rfl⟩
  have hP : va_P D vwCl (([] : va_W)) H := by rw [hHe]; exact hP
  have hS : va_S A s.heap H locs := by rw [hHe, hLe]; exact hS
  have goal0 : W p l e (RM 0 0) s m args below meth c H locs 0 0 Q (F0 m 0 ls []) := by
    refine lv_iload_n hx hb dX2_numbersOf_0 rfl (lv_at hl 0 rfl) ?_
    by_cases c1 : p0 = 100
    · replace hc := ite_t c1 hc
      refine lv_lookup (off := 45) (tgt := 46) hx hb dX2_numbersOf_1 (by decide) (by rw [c1]; rfl) (by decide) ?_
      refine lv_iconst (v := 2) hx hb dX2_numbersOf_46 (by decide) ?_
      exact hend H locs _ _ _ (some_one hc) rfl hP hD hS dX2_numbersOf_47
    replace hc := ite_f c1 hc
    by_cases c2 : p0 = 110
    · replace hc := ite_t c2 hc
      refine lv_lookup (off := 49) (tgt := 50) hx hb dX2_numbersOf_1 (by decide) (by rw [c2]; rfl) (by decide) ?_
      refine lv_iconst (v := 3) hx hb dX2_numbersOf_50 (by decide) ?_
      exact hend H locs _ _ _ (some_one hc) rfl hP hD hS dX2_numbersOf_51
    replace hc := ite_f c2 hc
    by_cases c3 : p0 = 114
    · replace hc := ite_t c3 hc
      refine lv_lookup (off := 47) (tgt := 48) hx hb dX2_numbersOf_1 (by decide) (by rw [c3]; rfl) (by decide) ?_
      refine lv_iconst (v := 2) hx hb dX2_numbersOf_48 (by decide) ?_
      exact hend H locs _ _ _ (some_one hc) rfl hP hD hS dX2_numbersOf_49
    replace hc := ite_f c3 hc
    by_cases c4 : p0 = 116
    · replace hc := ite_t c4 hc
      refine lv_lookup (off := 43) (tgt := 44) hx hb dX2_numbersOf_1 (by decide) (by rw [c4]; rfl) (by decide) ?_
      refine lv_iconst (v := 1) hx hb dX2_numbersOf_44 (by decide) ?_
      exact hend H locs _ _ _ (some_one hc) rfl hP hD hS dX2_numbersOf_45
    replace hc := ite_f c4 hc
    refine lv_lookup (off := 51) (tgt := 52) hx hb dX2_numbersOf_1 (by decide) (sw_X2_numbersOf c1 c2 c3 c4) (by decide) ?_
    refine lv_iconst (v := 0) hx hb dX2_numbersOf_52 (by decide) ?_
    exact hend H locs _ _ _ (some_one hc) rfl hP hD hS dX2_numbersOf_53
  rw [hHe, hLe] at goal0
  exact goal0
set_option maxHeartbeats 4000000 in
set_option maxRecDepth 100000 in
theorem C_X2_isDigit (l : Launch) (D : va_G) (cy : Nat → ClassId) (p0 : Int32) (r : Int32) (hc : f_X2_isDigit p0 = some r) : ConI l yX2_isDigit wsX2_isDigit 0 0 D cy (fun (_ : Unit) => ([] : va_W)) [.int p0] (()) (()) r := by
  refine bodyI (cc := cX2_isDigit) (maxL := 1) (ty := .boolean) (by decide +kernel) rfl (Nat.le_of_ble_eq_true rfl) ?_
  intro p e s m args below meth c A Q hx hb hml hts hown hK hP hD hA hS hend ls hl
  have hown : s.vm.findClass RX2 = some m.cls := hown
  have hP : va_P D vwCl (([] : va_W)) s.heap := hP
  have hD : va_D A (([] : va_W)) := hD
  have hl : lv_has ls 1 [(0, .int p0)] := hl
  have hend : ∀ (H : Heap) (locs : List Loc) (pc : Nat) (ls : Array Slot) (v : Int32), v = r → narrow .boolean (.int v) = .int v → va_P D vwCl (([] : va_W)) H → va_D A (([] : va_W)) → va_S A s.heap H locs → decode cX2_isDigit pc = .ok (.ireturn, 1) → W p l e (RM 0 0) s m args below meth c H locs 0 0 Q (F0 m pc ls [.int v]) := fun H locs pc ls v h1 h3 h4 h5 h6 h7 => hend H locs pc ls v (()) h1 rfl h3 h4 h5 h6 h7
  obtain ⟨H, hHe⟩ : ∃ H : Heap, H = s.heap := ⟨_, rfl⟩
  obtain ⟨locs, hLe⟩ : ∃ x : List Loc, x = [] := ⟨_, rfl⟩
  have hP : va_P D vwCl (([] : va_W)) H := by rw [hHe]; exact hP
  have hS : va_S A s.heap H locs := by rw [hHe, hLe]; exact hS
  have goal0 : W p l e (RM 0 0) s m args below meth c H locs 0 0 Q (F0 m 0 ls []) := by
    refine lv_iload_n hx hb dX2_isDigit_0 rfl (lv_at hl 0 rfl) ?_
    refine lv_bipush (v := 48) hx hb dX2_isDigit_1 (by decide +kernel) ?_
    refine lv_icmp_lt (tgt := 16) hx hb dX2_isDigit_3 (by decide) (fun c1 => ?_) (fun c1 => ?_)
    · replace hc := ite_t c1 hc
      refine lv_iconst (v := 0) hx hb dX2_isDigit_16 (by decide) ?_
      exact hend H locs _ _ _ (some_one hc) rfl hP hD hS dX2_isDigit_17
    · replace hc := ite_f c1 hc
      refine lv_iload_n hx hb dX2_isDigit_6 rfl (lv_at hl 0 rfl) ?_
      refine lv_bipush (v := 57) hx hb dX2_isDigit_7 (by decide +kernel) ?_
      refine lv_icmp_gt (tgt := 16) hx hb dX2_isDigit_9 (by decide) (fun c2 => ?_) (fun c2 => ?_)
      · replace hc := ite_t c2 hc
        refine lv_iconst (v := 0) hx hb dX2_isDigit_16 (by decide) ?_
        exact hend H locs _ _ _ (some_one hc) rfl hP hD hS dX2_isDigit_17
      · replace hc := ite_f c2 hc
        refine lv_iconst (v := 1) hx hb dX2_isDigit_12 (by decide) ?_
        refine lv_goto (tgt := 17) hx hb dX2_isDigit_13 (by decide) ?_
        exact hend H locs _ _ _ (some_one hc) rfl hP hD hS dX2_isDigit_17
  rw [hHe, hLe] at goal0
  exact goal0
set_option maxHeartbeats 4000000 in
set_option maxRecDepth 100000 in
theorem C_X2_append (l : Launch) (D : va_G) (cy : Nat → ClassId) (a : Nat → Nat) (V : FV) (p1 : Int32) (r : Int32) (V' : FV) (hc : f_X2_append V p1 = some (r, V')) : ConI l yX2_append wsX2_append 0 0 D cy (SW cy a) [.ref (a 0), .int p1] V V' r := by
  refine bodyI (cc := cX2_append) (maxL := 2) (ty := .boolean) (by decide +kernel) rfl (Nat.le_of_ble_eq_true rfl) ?_
  intro p e s m args below meth c A Q hx hb hml hts hown hK hP hD hA hS hend ls hl
  have hown : s.vm.findClass RX2 = some m.cls := hown
  have hP : va_P D vwCl (SW cy a V) s.heap := hP
  have hD : va_D A (SW cy a V) := hD
  have hl : lv_has ls 2 [(0, .ref (a 0)), (1, .int p1)] := hl
  have hend : ∀ (H : Heap) (locs : List Loc) (pc : Nat) (ls : Array Slot) (v : Int32) (V : FV), v = r → V = V' → narrow .boolean (.int v) = .int v → va_P D vwCl (SW cy a V) H → va_D A (SW cy a V) → va_S A s.heap H locs → decode cX2_append pc = .ok (.ireturn, 1) → W p l e (RM 0 0) s m args below meth c H locs 0 0 Q (F0 m pc ls [.int v]) := fun H locs pc ls v V h1 h2 h3 h4 h5 h6 h7 => hend H locs pc ls v V h1 h2 h3 h4 h5 h6 h7
  have fl_19 := hts (.fieldLink RX2 19 "NoonWells$Script" "length" "I") (by decide +kernel)
  have inw_X2 := (by decide +kernel : ∀ w ∈ u_ws RX2 TX2 7, w ∈ wsX2_append)
  have fl_9 := hts (.fieldLink RX2 9 "NoonWells$Script" "signs" "[C") (by decide +kernel)
  obtain ⟨H, hHe⟩ : ∃ H : Heap, H = s.heap := ⟨_, rfl⟩
  obtain ⟨locs, hLe⟩ : ∃ x : List Loc, x = [] := ⟨_, rfl⟩
  have hP : va_P D vwCl (SW cy a V) H := by rw [hHe]; exact hP
  have hS : va_S A s.heap H locs := by rw [hHe, hLe]; exact hS
  have goal0 : W p l e (RM 0 0) s m args below meth c H locs 0 0 Q (F0 m 0 ls []) := by
    refine lv_aload_n hx hb dX2_append_0 rfl (lv_at hl 0 rfl) ?_
    refine va_get (ci := 2) (v := .int (V 0 0)) (C := RX2) (T := TX2) (N := 7) hx hb hts inw_X2 hown hK.1 hP 0 rfl rfl 2 (by decide) fl_19 (fun _ h9 => h9) rfl dX2_append_1 ?_
    refine lv_bipush (v := 60) hx hb dX2_append_4 (by decide +kernel) ?_
    refine lv_icmp_lt (tgt := 11) hx hb dX2_append_6 (by decide) (fun c1 => ?_) (fun c1 => ?_)
    · replace hc := ite_t c1 hc
      refine lv_aload_n hx hb dX2_append_11 rfl (lv_at hl 0 rfl) ?_
      refine va_get (ci := 2) (v := .ref (a 1)) (C := RX2) (T := TX2) (N := 7) hx hb hts inw_X2 hown hK.1 hP 0 rfl rfl 0 (by decide) fl_9 (fun _ h9 => h9) rfl dX2_append_12 ?_
      refine lv_aload_n hx hb dX2_append_15 rfl (lv_at hl 0 rfl) ?_
      refine va_get (ci := 2) (v := .int (V 0 0)) (C := RX2) (T := TX2) (N := 7) hx hb hts inw_X2 hown hK.1 hP 0 rfl rfl 2 (by decide) fl_19 (fun _ h9 => h9) rfl dX2_append_16 ?_
      refine lv_iload_n hx hb dX2_append_19 rfl (lv_at hl 1 rfl) ?_
      obtain ⟨V2, hi2, eV2, hc⟩ := wr_some hc
      refine g_cast (w' := SW cy a V2) hx hb hK hP hD hS 1 rfl hi2 (by rw [← eV2]; rfl) dX2_append_20 (fun H locs hP hD hS => ?_)
      refine lv_aload_n hx hb dX2_append_21 rfl (lv_at hl 0 rfl) ?_
      refine lv_dup hx hb dX2_append_22 rfl ?_
      refine va_get (ci := 2) (v := .int (V2 0 0)) (C := RX2) (T := TX2) (N := 7) hx hb hts inw_X2 hown hK.1 hP 0 rfl rfl 2 (by decide) fl_19 (fun _ h9 => h9) rfl dX2_append_23 ?_
      refine lv_iconst (v := 1) hx hb dX2_append_26 (by decide) ?_
      refine lv_iadd hx hb dX2_append_27 ?_
      obtain ⟨V3, eV3, hc⟩ := lt1_some hc
      refine g_put (ci := 2) (C := RX2) (T := TX2) (N := 7) (w' := SW cy a V3) hx hb hts inw_X2 tyX2 tyX2_ok nmX2 hown hK hP hD hS 0 rfl rfl 2 (by decide) fl_19 (fun _ h9 => h9) rfl (by decide +kernel) (Nat.le_of_ble_eq_true rfl) (by rw [← eV3]; rfl) dX2_append_28 (fun H locs hP hD hS => ?_)
      refine lv_iconst (v := 1) hx hb dX2_append_31 (by decide) ?_
      exact hend H locs _ _ _ _ (some_fst hc) (some_snd hc) rfl hP hD hS dX2_append_32
    · replace hc := ite_f c1 hc
      refine lv_iconst (v := 0) hx hb dX2_append_9 (by decide) ?_
      exact hend H locs _ _ _ _ (some_fst hc) (some_snd hc) rfl hP hD hS dX2_append_10
  rw [hHe, hLe] at goal0
  exact goal0
set_option maxHeartbeats 4000000 in
set_option maxRecDepth 100000 in
theorem C_X2_readNumber (l : Launch) (D : va_G) (cy : Nat → ClassId) (a : Nat → Nat) (V : FV) (p1 : Int32) (r : Int32) (V' : FV) (hc : f_X2_readNumber V p1 = some (r, V')) : ConI l yX2_readNumber wsX2_readNumber 1 20 D cy (SW cy a) [.ref (a 0), .int p1] V V' r := by
  refine bodyI (cc := cX2_readNumber) (maxL := 4) (ty := .boolean) (by decide +kernel) rfl (Nat.le_of_ble_eq_true rfl) ?_
  intro p e s m args below meth c A Q hx hb hml hts hown hK hP hD hA hS hend ls hl
  have hown : s.vm.findClass RX2 = some m.cls := hown
  have hP : va_P D vwCl (SW cy a V) s.heap := hP
  have hD : va_D A (SW cy a V) := hD
  have hl : lv_has ls 4 [(0, .ref (a 0)), (1, .int p1)] := hl
  have hend : ∀ (H : Heap) (locs : List Loc) (pc : Nat) (ls : Array Slot) (v : Int32) (V : FV), v = r → V = V' → narrow .boolean (.int v) = .int v → va_P D vwCl (SW cy a V) H → va_D A (SW cy a V) → va_S A s.heap H locs → decode cX2_readNumber pc = .ok (.ireturn, 1) → W p l e (RM 1 20) s m args below meth c H locs 0 0 Q (F0 m pc ls [.int v]) := fun H locs pc ls v V h1 h2 h3 h4 h5 h6 h7 => hend H locs pc ls v V h1 h2 h3 h4 h5 h6 h7
  have fl_15 := hts (.fieldLink RX2 15 "NoonWells$Script" "numbers" "[I") (by decide +kernel)
  have inw_X2 := (by decide +kernel : ∀ w ∈ u_ws RX2 TX2 7, w ∈ wsX2_readNumber)
  have fl_32 := hts (.fieldLink RX2 32 "NoonWells$Script" "next" "I") (by decide +kernel)
  have fl_19 := hts (.fieldLink RX2 19 "NoonWells$Script" "length" "I") (by decide +kernel)
  have fl_9 := hts (.fieldLink RX2 9 "NoonWells$Script" "signs" "[C") (by decide +kernel)
  have L4 : ∀ (n : Nat), ∀ (y1 y2 y3 : Int32) (V : FV) (H : Heap) (locs : List Loc) (ls : Array Slot), f_X2_readNumber_L4 n y1 y2 y3 V = some (r, V') → va_P D vwCl (SW cy a V) H → va_D A (SW cy a V) → va_S A s.heap H locs → lv_has ls 4 [(0, .ref (a 0)), (1, .int y1), (2, .int y2), (3, .int y3)] → W p l e (RM 1 20) s m args below meth c H locs 0 0 Q (F0 m 4 ls []) := by
    intro n
    induction n with
    | zero =>
      intro y1 y2 y3 V H locs ls hc
      cases hc
    | succ n ih =>
      intro y1 y2 y3 V H locs ls hc hP hD hS hl
      refine lv_iload_n hx hb dX2_readNumber_4 rfl (lv_at hl 3 rfl) ?_
      refine lv_iconst (v := 3) hx hb dX2_readNumber_5 (by decide) ?_
      refine lv_icmp_ge (tgt := 69) hx hb dX2_readNumber_6 (by decide) (fun c1 => ?_) (fun c1 => ?_)
      · replace hc := ite_t c1 hc
        refine lv_aload_n hx hb dX2_readNumber_69 rfl (lv_at hl 0 rfl) ?_
        refine va_get (ci := 2) (v := .ref (a 2)) (C := RX2) (T := TX2) (N := 7) hx hb hts inw_X2 hown hK.1 hP 0 rfl rfl 1 (by decide) fl_15 (fun _ h9 => h9) rfl dX2_readNumber_70 ?_
        refine lv_iload_n hx hb dX2_readNumber_73 rfl (lv_at hl 1 rfl) ?_
        refine lv_iload_n hx hb dX2_readNumber_74 rfl (lv_at hl 2 rfl) ?_
        obtain ⟨V2, hi2, eV2, hc⟩ := wr_some hc
        refine g_iast (w' := SW cy a V2) hx hb hK hP hD hS 2 rfl hi2 (by rw [← eV2]; rfl) dX2_readNumber_75 (fun H locs hP hD hS => ?_)
        refine lv_iload_n hx hb dX2_readNumber_76 rfl (lv_at hl 3 rfl) ?_
        refine lv_if_le (tgt := 84) hx hb dX2_readNumber_77 (by decide) (fun c3 => ?_) (fun c3 => ?_)
        · replace hc := ite_t c3 hc
          refine lv_iconst (v := 0) hx hb dX2_readNumber_84 (by decide) ?_
          exact hend H locs _ _ _ _ (some_fst hc) (some_snd hc) rfl hP hD hS dX2_readNumber_85
        · replace hc := ite_f c3 hc
          refine lv_iconst (v := 1) hx hb dX2_readNumber_80 (by decide) ?_
          refine lv_goto (tgt := 85) hx hb dX2_readNumber_81 (by decide) ?_
          exact hend H locs _ _ _ _ (some_fst hc) (some_snd hc) rfl hP hD hS dX2_readNumber_85
      · replace hc := ite_f c1 hc
        refine lv_aload_n hx hb dX2_readNumber_9 rfl (lv_at hl 0 rfl) ?_
        refine va_get (ci := 2) (v := .int (V 0 1)) (C := RX2) (T := TX2) (N := 7) hx hb hts inw_X2 hown hK.1 hP 0 rfl rfl 3 (by decide) fl_32 (fun _ h9 => h9) rfl dX2_readNumber_10 ?_
        refine lv_aload_n hx hb dX2_readNumber_13 rfl (lv_at hl 0 rfl) ?_
        refine va_get (ci := 2) (v := .int (V 0 0)) (C := RX2) (T := TX2) (N := 7) hx hb hts inw_X2 hown hK.1 hP 0 rfl rfl 2 (by decide) fl_19 (fun _ h9 => h9) rfl dX2_readNumber_14 ?_
        refine lv_icmp_ge (tgt := 69) hx hb dX2_readNumber_17 (by decide) (fun c4 => ?_) (fun c4 => ?_)
        · replace hc := ite_t c4 hc
          refine lv_aload_n hx hb dX2_readNumber_69 rfl (lv_at hl 0 rfl) ?_
          refine va_get (ci := 2) (v := .ref (a 2)) (C := RX2) (T := TX2) (N := 7) hx hb hts inw_X2 hown hK.1 hP 0 rfl rfl 1 (by decide) fl_15 (fun _ h9 => h9) rfl dX2_readNumber_70 ?_
          refine lv_iload_n hx hb dX2_readNumber_73 rfl (lv_at hl 1 rfl) ?_
          refine lv_iload_n hx hb dX2_readNumber_74 rfl (lv_at hl 2 rfl) ?_
          obtain ⟨V5, hi5, eV5, hc⟩ := wr_some hc
          refine g_iast (w' := SW cy a V5) hx hb hK hP hD hS 2 rfl hi5 (by rw [← eV5]; rfl) dX2_readNumber_75 (fun H locs hP hD hS => ?_)
          refine lv_iload_n hx hb dX2_readNumber_76 rfl (lv_at hl 3 rfl) ?_
          refine lv_if_le (tgt := 84) hx hb dX2_readNumber_77 (by decide) (fun c6 => ?_) (fun c6 => ?_)
          · replace hc := ite_t c6 hc
            refine lv_iconst (v := 0) hx hb dX2_readNumber_84 (by decide) ?_
            exact hend H locs _ _ _ _ (some_fst hc) (some_snd hc) rfl hP hD hS dX2_readNumber_85
          · replace hc := ite_f c6 hc
            refine lv_iconst (v := 1) hx hb dX2_readNumber_80 (by decide) ?_
            refine lv_goto (tgt := 85) hx hb dX2_readNumber_81 (by decide) ?_
            exact hend H locs _ _ _ _ (some_fst hc) (some_snd hc) rfl hP hD hS dX2_readNumber_85
        · replace hc := ite_f c4 hc
          refine lv_aload_n hx hb dX2_readNumber_20 rfl (lv_at hl 0 rfl) ?_
          refine va_get (ci := 2) (v := .ref (a 1)) (C := RX2) (T := TX2) (N := 7) hx hb hts inw_X2 hown hK.1 hP 0 rfl rfl 0 (by decide) fl_9 (fun _ h9 => h9) rfl dX2_readNumber_21 ?_
          refine lv_aload_n hx hb dX2_readNumber_24 rfl (lv_at hl 0 rfl) ?_
          refine va_get (ci := 2) (v := .int (V 0 1)) (C := RX2) (T := TX2) (N := 7) hx hb hts inw_X2 hown hK.1 hP 0 rfl rfl 3 (by decide) fl_32 (fun _ h9 => h9) rfl dX2_readNumber_25 ?_
          obtain ⟨x7, hi7, hv7, hc⟩ := rd_some hc
          refine g_cald (x := x7) hx hb hK hP 1 rfl hi7 hv7 dX2_readNumber_28 ?_
          obtain ⟨x8, hc8, hc⟩ := b1_some hc
          refine gc_SI (n := 1) (w' := SW cy a V) hx hb hml hown hts hK hP hD hS hA hl.1 ⟨Nat.le_refl _, Nat.le_refl _⟩ (C_X2_isDigit l D cy x7 x8 hc8) gX2_readNumber_X2_isDigit rfl (by decide +kernel) rfl ⟨by decide, by decide⟩ Jn.none rfl (Nat.le_of_ble_eq_true rfl) dX2_readNumber_29 (fun H locs hP hD hS => ?_)
          refine lv_if_eq (tgt := 69) hx hb dX2_readNumber_32 (by decide) (fun c9 => ?_) (fun c9 => ?_)
          · replace hc := ite_t c9 hc
            refine lv_aload_n hx hb dX2_readNumber_69 rfl (lv_at hl 0 rfl) ?_
            refine va_get (ci := 2) (v := .ref (a 2)) (C := RX2) (T := TX2) (N := 7) hx hb hts inw_X2 hown hK.1 hP 0 rfl rfl 1 (by decide) fl_15 (fun _ h9 => h9) rfl dX2_readNumber_70 ?_
            refine lv_iload_n hx hb dX2_readNumber_73 rfl (lv_at hl 1 rfl) ?_
            refine lv_iload_n hx hb dX2_readNumber_74 rfl (lv_at hl 2 rfl) ?_
            obtain ⟨V10, hi10, eV10, hc⟩ := wr_some hc
            refine g_iast (w' := SW cy a V10) hx hb hK hP hD hS 2 rfl hi10 (by rw [← eV10]; rfl) dX2_readNumber_75 (fun H locs hP hD hS => ?_)
            refine lv_iload_n hx hb dX2_readNumber_76 rfl (lv_at hl 3 rfl) ?_
            refine lv_if_le (tgt := 84) hx hb dX2_readNumber_77 (by decide) (fun c11 => ?_) (fun c11 => ?_)
            · replace hc := ite_t c11 hc
              refine lv_iconst (v := 0) hx hb dX2_readNumber_84 (by decide) ?_
              exact hend H locs _ _ _ _ (some_fst hc) (some_snd hc) rfl hP hD hS dX2_readNumber_85
            · replace hc := ite_f c11 hc
              refine lv_iconst (v := 1) hx hb dX2_readNumber_80 (by decide) ?_
              refine lv_goto (tgt := 85) hx hb dX2_readNumber_81 (by decide) ?_
              exact hend H locs _ _ _ _ (some_fst hc) (some_snd hc) rfl hP hD hS dX2_readNumber_85
          · replace hc := ite_f c9 hc
            refine lv_iload_n hx hb dX2_readNumber_35 rfl (lv_at hl 2 rfl) ?_
            refine lv_bipush (v := 10) hx hb dX2_readNumber_36 (by decide +kernel) ?_
            refine lv_imul hx hb dX2_readNumber_38 ?_
            refine lv_aload_n hx hb dX2_readNumber_39 rfl (lv_at hl 0 rfl) ?_
            refine va_get (ci := 2) (v := .ref (a 1)) (C := RX2) (T := TX2) (N := 7) hx hb hts inw_X2 hown hK.1 hP 0 rfl rfl 0 (by decide) fl_9 (fun _ h9 => h9) rfl dX2_readNumber_40 ?_
            refine lv_aload_n hx hb dX2_readNumber_43 rfl (lv_at hl 0 rfl) ?_
            refine va_get (ci := 2) (v := .int (V 0 1)) (C := RX2) (T := TX2) (N := 7) hx hb hts inw_X2 hown hK.1 hP 0 rfl rfl 3 (by decide) fl_32 (fun _ h9 => h9) rfl dX2_readNumber_44 ?_
            obtain ⟨x12, hi12, hv12, hc⟩ := rd_some hc
            refine g_cald (x := x12) hx hb hK hP 1 rfl hi12 hv12 dX2_readNumber_47 ?_
            refine lv_bipush (v := 48) hx hb dX2_readNumber_48 (by decide +kernel) ?_
            refine lv_isub hx hb dX2_readNumber_50 ?_
            refine lv_iadd hx hb dX2_readNumber_51 ?_
            refine lv_istore_n (lv' := [(2, .int ((y2 * 10) + (x12 - 48))), (0, .ref (a 0)), (1, .int y1), (3, .int y3)]) hx hb dX2_readNumber_52 rfl hl (by decide) rfl (fun ls hl => ?_)
            refine lv_iinc (v := y3 + 1) (lv' := [(3, .int (y3 + 1)), (2, .int ((y2 * 10) + (x12 - 48))), (0, .ref (a 0)), (1, .int y1)]) hx hb dX2_readNumber_53 hl (k := 3) rfl rfl (by decide) rfl (fun ls hl => ?_)
            refine lv_aload_n hx hb dX2_readNumber_56 rfl (lv_at hl 2 rfl) ?_
            refine lv_dup hx hb dX2_readNumber_57 rfl ?_
            refine va_get (ci := 2) (v := .int (V 0 1)) (C := RX2) (T := TX2) (N := 7) hx hb hts inw_X2 hown hK.1 hP 0 rfl rfl 3 (by decide) fl_32 (fun _ h9 => h9) rfl dX2_readNumber_58 ?_
            refine lv_iconst (v := 1) hx hb dX2_readNumber_61 (by decide) ?_
            refine lv_iadd hx hb dX2_readNumber_62 ?_
            obtain ⟨V13, eV13, hc⟩ := lt1_some hc
            refine g_put (ci := 2) (C := RX2) (T := TX2) (N := 7) (w' := SW cy a V13) hx hb hts inw_X2 tyX2 tyX2_ok nmX2 hown hK hP hD hS 0 rfl rfl 3 (by decide) fl_32 (fun _ h9 => h9) rfl (by decide +kernel) (Nat.le_of_ble_eq_true rfl) (by rw [← eV13]; rfl) dX2_readNumber_63 (fun H locs hP hD hS => ?_)
            refine lv_goto (tgt := 4) hx hb dX2_readNumber_66 (by decide) ?_
            exact ih y1 ((y2 * 10) + (x12 - 48)) (y3 + 1) V13 H locs ls hc hP hD hS (lv_sub hl [2, 3, 1, 0] rfl)
  obtain ⟨H, hHe⟩ : ∃ H : Heap, H = s.heap := ⟨_, rfl⟩
  obtain ⟨locs, hLe⟩ : ∃ x : List Loc, x = [] := ⟨_, rfl⟩
  have hP : va_P D vwCl (SW cy a V) H := by rw [hHe]; exact hP
  have hS : va_S A s.heap H locs := by rw [hHe, hLe]; exact hS
  have goal0 : W p l e (RM 1 20) s m args below meth c H locs 0 0 Q (F0 m 0 ls []) := by
    refine lv_iconst (v := 0) hx hb dX2_readNumber_0 (by decide) ?_
    refine lv_istore_n (lv' := [(2, .int 0), (0, .ref (a 0)), (1, .int p1)]) hx hb dX2_readNumber_1 rfl hl (by decide) rfl (fun ls hl => ?_)
    refine lv_iconst (v := 0) hx hb dX2_readNumber_2 (by decide) ?_
    refine lv_istore_n (lv' := [(3, .int 0), (2, .int 0), (0, .ref (a 0)), (1, .int p1)]) hx hb dX2_readNumber_3 rfl hl (by decide) rfl (fun ls hl => ?_)
    exact L4 FUEL p1 0 0 V H locs ls hc hP hD hS (lv_sub hl [2, 3, 1, 0] rfl)
  rw [hHe, hLe] at goal0
  exact goal0
