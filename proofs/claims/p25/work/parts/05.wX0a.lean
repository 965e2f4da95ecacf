set_option maxHeartbeats 4000000 in
set_option maxRecDepth 100000 in
theorem C_X0_isWell (l : Launch) (D : va_G) (cy : Nat → ClassId) (a : Nat → Nat) (V : FV) (p1 : Int32) (r : Int32) (hc : f_X0_isWell V p1 = some r) : ConI l yX0_isWell wsX0_isWell 0 0 D cy (FW cy a) [.ref (a 0), .int p1] V V r := by
  refine bodyI (cc := cX0_isWell) (maxL := 2) (ty := .boolean) (by decide +kernel) rfl (Nat.le_of_ble_eq_true rfl) ?_
  intro p e s m args below meth c A Q hx hb hml hts hown hK hP hD hA hS hend ls hl
  have hown : s.vm.findClass RX0 = some m.cls := hown
  have hP : va_P D vwCl (FW cy a V) s.heap := hP
  have hD : va_D A (FW cy a V) := hD
  have hl : lv_has ls 2 [(0, .ref (a 0)), (1, .int p1)] := hl
  have hend : ∀ (H : Heap) (locs : List Loc) (pc : Nat) (ls : Array Slot) (v : Int32), v = r → narrow .boolean (.int v) = .int v → va_P D vwCl (FW cy a V) H → va_D A (FW cy a V) → va_S A s.heap H locs → decode cX0_isWell pc = .ok (.ireturn, 1) → W p l e (RM 0 0) s m args below meth c H locs 0 0 Q (F0 m pc ls [.int v]) := fun H locs pc ls v h1 h3 h4 h5 h6 h7 => hend H locs pc ls v V h1 rfl h3 h4 h5 h6 h7
  have fl_33 := hts (.fieldLink RX0 33 "NoonWells$Field" "wellCount" "I") (by decide +kernel)
  have inw_X0 := (by decide +kernel : ∀ w ∈ u_ws RX0 TX0 10, w ∈ wsX0_isWell)
  obtain ⟨H, hHe⟩ : ∃ H : Heap, H = s.heap := ⟨_, rfl⟩
  obtain ⟨locs, hLe⟩ : ∃ x : List Loc, x = [] := ⟨_, rfl⟩
  have hP : va_P D vwCl (FW cy a V) H := by rw [hHe]; exact hP
  have hS : va_S A s.heap H locs := by rw [hHe, hLe]; exact hS
  have goal0 : W p l e (RM 0 0) s m args below meth c H locs 0 0 Q (F0 m 0 ls []) := by
    refine lv_iload_n hx hb dX0_isWell_0 rfl (lv_at hl 1 rfl) ?_
    refine lv_if_lt (tgt := 16) hx hb dX0_isWell_1 (by decide) (fun c1 => ?_) (fun c1 => ?_)
    · replace hc := ite_t c1 hc
      refine lv_iconst (v := 0) hx hb dX0_isWell_16 (by decide) ?_
      exact hend H locs _ _ _ (some_one hc) rfl hP hD hS dX0_isWell_17
    · replace hc := ite_f c1 hc
      refine lv_iload_n hx hb dX0_isWell_4 rfl (lv_at hl 1 rfl) ?_
      refine lv_aload_n hx hb dX0_isWell_5 rfl (lv_at hl 0 rfl) ?_
      refine va_get (ci := 0) (v := .int (V 0 0)) (C := RX0) (T := TX0) (N := 10) hx hb hts inw_X0 hown hK.1 hP 0 rfl rfl 5 (by decide) fl_33 (fun _ h9 => h9) rfl dX0_isWell_6 ?_
      refine lv_icmp_ge (tgt := 16) hx hb dX0_isWell_9 (by decide) (fun c2 => ?_) (fun c2 => ?_)
      · replace hc := ite_t c2 hc
        refine lv_iconst (v := 0) hx hb dX0_isWell_16 (by decide) ?_
        exact hend H locs _ _ _ (some_one hc) rfl hP hD hS dX0_isWell_17
      · replace hc := ite_f c2 hc
        refine lv_iconst (v := 1) hx hb dX0_isWell_12 (by decide) ?_
        refine lv_goto (tgt := 17) hx hb dX0_isWell_13 (by decide) ?_
        exact hend H locs _ _ _ (some_one hc) rfl hP hD hS dX0_isWell_17
  rw [hHe, hLe] at goal0
  exact goal0
set_option maxHeartbeats 4000000 in
set_option maxRecDepth 100000 in
theorem C_X0_isPlace (l : Launch) (D : va_G) (cy : Nat → ClassId) (a : Nat → Nat) (V : FV) (p1 : Int32) (r : Int32) (hc : f_X0_isPlace V p1 = some r) : ConI l yX0_isPlace wsX0_isPlace 0 0 D cy (FW cy a) [.ref (a 0), .int p1] V V r := by
  refine bodyI (cc := cX0_isPlace) (maxL := 2) (ty := .boolean) (by decide +kernel) rfl (Nat.le_of_ble_eq_true rfl) ?_
  intro p e s m args below meth c A Q hx hb hml hts hown hK hP hD hA hS hend ls hl
  have hown : s.vm.findClass RX0 = some m.cls := hown
  have hP : va_P D vwCl (FW cy a V) s.heap := hP
  have hD : va_D A (FW cy a V) := hD
  have hl : lv_has ls 2 [(0, .ref (a 0)), (1, .int p1)] := hl
  have hend : ∀ (H : Heap) (locs : List Loc) (pc : Nat) (ls : Array Slot) (v : Int32), v = r → narrow .boolean (.int v) = .int v → va_P D vwCl (FW cy a V) H → va_D A (FW cy a V) → va_S A s.heap H locs → decode cX0_isPlace pc = .ok (.ireturn, 1) → W p l e (RM 0 0) s m args below meth c H locs 0 0 Q (F0 m pc ls [.int v]) := fun H locs pc ls v h1 h3 h4 h5 h6 h7 => hend H locs pc ls v V h1 rfl h3 h4 h5 h6 h7
  have fl_40 := hts (.fieldLink RX0 40 "NoonWells$Field" "waiting" "I") (by decide +kernel)
  have inw_X0 := (by decide +kernel : ∀ w ∈ u_ws RX0 TX0 10, w ∈ wsX0_isPlace)
  obtain ⟨H, hHe⟩ : ∃ H : Heap, H = s.heap := ⟨_, rfl⟩
  obtain ⟨locs, hLe⟩ : ∃ x : List Loc, x = [] := ⟨_, rfl⟩
  have hP : va_P D vwCl (FW cy a V) H := by rw [hHe]; exact hP
  have hS : va_S A s.heap H locs := by rw [hHe, hLe]; exact hS
  have goal0 : W p l e (RM 0 0) s m args below meth c H locs 0 0 Q (F0 m 0 ls []) := by
    refine lv_iload_n hx hb dX0_isPlace_0 rfl (lv_at hl 1 rfl) ?_
    refine lv_iconst (v := 1) hx hb dX0_isPlace_1 (by decide) ?_
    refine lv_icmp_lt (tgt := 17) hx hb dX0_isPlace_2 (by decide) (fun c1 => ?_) (fun c1 => ?_)
    · replace hc := ite_t c1 hc
      refine lv_iconst (v := 0) hx hb dX0_isPlace_17 (by decide) ?_
      exact hend H locs _ _ _ (some_one hc) rfl hP hD hS dX0_isPlace_18
    · replace hc := ite_f c1 hc
      refine lv_iload_n hx hb dX0_isPlace_5 rfl (lv_at hl 1 rfl) ?_
      refine lv_aload_n hx hb dX0_isPlace_6 rfl (lv_at hl 0 rfl) ?_
      refine va_get (ci := 0) (v := .int (V 0 2)) (C := RX0) (T := TX0) (N := 10) hx hb hts inw_X0 hown hK.1 hP 0 rfl rfl 7 (by decide) fl_40 (fun _ h9 => h9) rfl dX0_isPlace_7 ?_
      refine lv_icmp_gt (tgt := 17) hx hb dX0_isPlace_10 (by decide) (fun c2 => ?_) (fun c2 => ?_)
      · replace hc := ite_t c2 hc
        refine lv_iconst (v := 0) hx hb dX0_isPlace_17 (by decide) ?_
        exact hend H locs _ _ _ (some_one hc) rfl hP hD hS dX0_isPlace_18
      · replace hc := ite_f c2 hc
        refine lv_iconst (v := 1) hx hb dX0_isPlace_13 (by decide) ?_
        refine lv_goto (tgt := 18) hx hb dX0_isPlace_14 (by decide) ?_
        exact hend H locs _ _ _ (some_one hc) rfl hP hD hS dX0_isPlace_18
  rw [hHe, hLe] at goal0
  exact goal0
set_option maxHeartbeats 4000000 in
set_option maxRecDepth 100000 in
theorem C_X0_sumOf (l : Launch) (D : va_G) (cy : Nat → ClassId) (a : Nat → Nat) (V : FV) (p1 : Int32) (r : Int32) (hc : f_X0_sumOf V p1 = some r) : ConI l yX0_sumOf wsX0_sumOf 0 0 D cy (FW cy a) [.ref (a 0), .int p1] V V r := by
  refine bodyI (cc := cX0_sumOf) (maxL := 4) (ty := .int) (by decide +kernel) rfl (Nat.le_of_ble_eq_true rfl) ?_
  intro p e s m args below meth c A Q hx hb hml hts hown hK hP hD hA hS hend ls hl
  have hown : s.vm.findClass RX0 = some m.cls := hown
  have hP : va_P D vwCl (FW cy a V) s.heap := hP
  have hD : va_D A (FW cy a V) := hD
  have hl : lv_has ls 4 [(0, .ref (a 0)), (1, .int p1)] := hl
  have hend : ∀ (H : Heap) (locs : List Loc) (pc : Nat) (ls : Array Slot) (v : Int32), v = r → narrow .int (.int v) = .int v → va_P D vwCl (FW cy a V) H → va_D A (FW cy a V) → va_S A s.heap H locs → decode cX0_sumOf pc = .ok (.ireturn, 1) → W p l e (RM 0 0) s m args below meth c H locs 0 0 Q (F0 m pc ls [.int v]) := fun H locs pc ls v h1 h3 h4 h5 h6 h7 => hend H locs pc ls v V h1 rfl h3 h4 h5 h6 h7
  have fl_33 := hts (.fieldLink RX0 33 "NoonWells$Field" "wellCount" "I") (by decide +kernel)
  have inw_X0 := (by decide +kernel : ∀ w ∈ u_ws RX0 TX0 10, w ∈ wsX0_sumOf)
  have fl_11 := hts (.fieldLink RX0 11 "NoonWells$Field" "wells" "[[I") (by decide +kernel)
  have L4 : ∀ (n : Nat), ∀ (y1 y2 y3 : Int32) (H : Heap) (locs : List Loc) (ls : Array Slot), f_X0_sumOf_L4 V n y1 y2 y3 = some r → va_P D vwCl (FW cy a V) H → va_D A (FW cy a V) → va_S A s.heap H locs → lv_has ls 4 [(0, .ref (a 0)), (1, .int y1), (2, .int y2), (3, .int y3)] → W p l e (RM 0 0) s m args below meth c H locs 0 0 Q (F0 m 4 ls []) := by
    intro n
    induction n with
    | zero =>
      intro y1 y2 y3 H locs ls hc
      cases hc
    | succ n ih =>
      intro y1 y2 y3 H locs ls hc hP hD hS hl
      refine lv_iload_n hx hb dX0_sumOf_4 rfl (lv_at hl 3 rfl) ?_
      refine lv_aload_n hx hb dX0_sumOf_5 rfl (lv_at hl 0 rfl) ?_
      refine va_get (ci := 0) (v := .int (V 0 0)) (C := RX0) (T := TX0) (N := 10) hx hb hts inw_X0 hown hK.1 hP 0 rfl rfl 5 (by decide) fl_33 (fun _ h9 => h9) rfl dX0_sumOf_6 ?_
      refine lv_icmp_ge (tgt := 29) hx hb dX0_sumOf_9 (by decide) (fun c1 => ?_) (fun c1 => ?_)
      · replace hc := ite_t c1 hc
        refine lv_iload_n hx hb dX0_sumOf_29 rfl (lv_at hl 2 rfl) ?_
        exact hend H locs _ _ _ (some_one hc) rfl hP hD hS dX0_sumOf_30
      · replace hc := ite_f c1 hc
        refine lv_iload_n hx hb dX0_sumOf_12 rfl (lv_at hl 2 rfl) ?_
        refine lv_aload_n hx hb dX0_sumOf_13 rfl (lv_at hl 0 rfl) ?_
        refine va_get (ci := 0) (v := .ref (a 1)) (C := RX0) (T := TX0) (N := 10) hx hb hts inw_X0 hown hK.1 hP 0 rfl rfl 0 (by decide) fl_11 (fun _ h9 => h9) rfl dX0_sumOf_14 ?_
        refine lv_iload_n hx hb dX0_sumOf_17 rfl (lv_at hl 1 rfl) ?_
        obtain ⟨j2, hi2, hj2, hn2, hc⟩ := ix_some hc
        refine g_aald (v := a (6 + j2)) hx hb hK hP 1 rfl hi2 (by rw [hj2]; exact if_pos hn2) dX0_sumOf_18 ?_
        refine lv_iload_n hx hb dX0_sumOf_19 rfl (lv_at hl 3 rfl) ?_
        obtain ⟨x3, hi3, hv3, hc⟩ := rd_some hc
        refine g_iald (x := x3) hx hb hK hP (6 + j2) (FW_row hn2) hi3 hv3 dX0_sumOf_20 ?_
        refine lv_iadd hx hb dX0_sumOf_21 ?_
        refine lv_istore_n (lv' := [(2, .int (y2 + x3)), (0, .ref (a 0)), (1, .int y1), (3, .int y3)]) hx hb dX0_sumOf_22 rfl hl (by decide) rfl (fun ls hl => ?_)
        refine lv_iinc (v := y3 + 1) (lv' := [(3, .int (y3 + 1)), (2, .int (y2 + x3)), (0, .ref (a 0)), (1, .int y1)]) hx hb dX0_sumOf_23 hl (k := 3) rfl rfl (by decide) rfl (fun ls hl => ?_)
        refine lv_goto (tgt := 4) hx hb dX0_sumOf_26 (by decide) ?_
        exact ih y1 (y2 + x3) (y3 + 1) H locs ls hc hP hD hS (lv_sub hl [2, 3, 1, 0] rfl)
  obtain ⟨H, hHe⟩ : ∃ H : Heap, H = s.heap := ⟨_, rfl⟩
  obtain ⟨locs, hLe⟩ : ∃ x : List Loc, x = [] := ⟨_, rfl⟩
  have hP : va_P D vwCl (FW cy a V) H := by rw [hHe]; exact hP
  have hS : va_S A s.heap H locs := by rw [hHe, hLe]; exact hS
  have goal0 : W p l e (RM 0 0) s m args below meth c H locs 0 0 Q (F0 m 0 ls []) := by
    refine lv_iconst (v := 0) hx hb dX0_sumOf_0 (by decide) ?_
    refine lv_istore_n (lv' := [(2, .int 0), (0, .ref (a 0)), (1, .int p1)]) hx hb dX0_sumOf_1 rfl hl (by decide) rfl (fun ls hl => ?_)
    refine lv_iconst (v := 0) hx hb dX0_sumOf_2 (by decide) ?_
    refine lv_istore_n (lv' := [(3, .int 0), (2, .int 0), (0, .ref (a 0)), (1, .int p1)]) hx hb dX0_sumOf_3 rfl hl (by decide) rfl (fun ls hl => ?_)
    exact L4 FUEL p1 0 0 H locs ls hc hP hD hS (lv_sub hl [2, 3, 1, 0] rfl)
  rw [hHe, hLe] at goal0
  exact goal0
set_option maxHeartbeats 4000000 in
set_option maxRecDepth 100000 in
theorem C_X0_timeOfDay (l : Launch) (D : va_G) (cy : Nat → ClassId) (a : Nat → Nat) (V : FV) (r : Int32) (hc : f_X0_timeOfDay V = some r) : ConI l yX0_timeOfDay wsX0_timeOfDay 0 0 D cy (FW cy a) [.ref (a 0)] V V r := by
  refine bodyI (cc := cX0_timeOfDay) (maxL := 2) (ty := .int) (by decide +kernel) rfl (Nat.le_of_ble_eq_true rfl) ?_
  intro p e s m args below meth c A Q hx hb hml hts hown hK hP hD hA hS hend ls hl
  have hown : s.vm.findClass RX0 = some m.cls := hown
  have hP : va_P D vwCl (FW cy a V) s.heap := hP
  have hD : va_D A (FW cy a V) := hD
  have hl : lv_has ls 2 [(0, .ref (a 0))] := hl
  have hend : ∀ (H : Heap) (locs : List Loc) (pc : Nat) (ls : Array Slot) (v : Int32), v = r → narrow .int (.int v) = .int v → va_P D vwCl (FW cy a V) H → va_D A (FW cy a V) → va_S A s.heap H locs → decode cX0_timeOfDay pc = .ok (.ireturn, 1) → W p l e (RM 0 0) s m args below meth c H locs 0 0 Q (F0 m pc ls [.int v]) := fun H locs pc ls v h1 h3 h4 h5 h6 h7 => hend H locs pc ls v V h1 rfl h3 h4 h5 h6 h7
  have fl_22 := hts (.fieldLink RX0 22 "NoonWells$Field" "settings" "[I") (by decide +kernel)
  have inw_X0 := (by decide +kernel : ∀ w ∈ u_ws RX0 TX0 10, w ∈ wsX0_timeOfDay)
  have fl_43 := hts (.fieldLink RX0 43 "NoonWells$Field" "time" "I") (by decide +kernel)
  obtain ⟨H, hHe⟩ : ∃ H : Heap, H = s.heap := ⟨_, rfl⟩
  obtain ⟨locs, hLe⟩ : ∃ x : List Loc, x = [] := ⟨_, rfl⟩
  have hP : va_P D vwCl (FW cy a V) H := by rw [hHe]; exact hP
  have hS : va_S A s.heap H locs := by rw [hHe, hLe]; exact hS
  have goal0 : W p l e (RM 0 0) s m args below meth c H locs 0 0 Q (F0 m 0 ls []) := by
    refine lv_aload_n hx hb dX0_timeOfDay_0 rfl (lv_at hl 0 rfl) ?_
    refine va_get (ci := 0) (v := .ref (a 4)) (C := RX0) (T := TX0) (N := 10) hx hb hts inw_X0 hown hK.1 hP 0 rfl rfl 3 (by decide) fl_22 (fun _ h9 => h9) rfl dX0_timeOfDay_1 ?_
    refine lv_iconst (v := 0) hx hb dX0_timeOfDay_4 (by decide) ?_
    refine g_iald (x := V 4 0) hx hb hK hP 4 rfl (vp_lit (by decide)) rfl dX0_timeOfDay_5 ?_
    refine lv_istore_n (lv' := [(1, .int (V 4 0)), (0, .ref (a 0))]) hx hb dX0_timeOfDay_6 rfl hl (by decide) rfl (fun ls hl => ?_)
    refine lv_iload_n hx hb dX0_timeOfDay_7 rfl (lv_at hl 0 rfl) ?_
    refine lv_if_le (tgt := 20) hx hb dX0_timeOfDay_8 (by decide) (fun c1 => ?_) (fun c1 => ?_)
    · replace hc := ite_t c1 hc
      refine lv_iconst (v := 0) hx hb dX0_timeOfDay_20 (by decide) ?_
      exact hend H locs _ _ _ (some_one hc) rfl hP hD hS dX0_timeOfDay_21
    · replace hc := ite_f c1 hc
      refine lv_aload_n hx hb dX0_timeOfDay_11 rfl (lv_at hl 1 rfl) ?_
      refine va_get (ci := 0) (v := .int (V 0 3)) (C := RX0) (T := TX0) (N := 10) hx hb hts inw_X0 hown hK.1 hP 0 rfl rfl 8 (by decide) fl_43 (fun _ h9 => h9) rfl dX0_timeOfDay_12 ?_
      refine lv_iload_n hx hb dX0_timeOfDay_15 rfl (lv_at hl 0 rfl) ?_
      obtain ⟨hz2, hc⟩ := nz_some hc
      refine lv_irem hx hb dX0_timeOfDay_16 hz2 ?_
      refine lv_goto (tgt := 21) hx hb dX0_timeOfDay_17 (by decide) ?_
      exact hend H locs _ _ _ (some_one hc) rfl hP hD hS dX0_timeOfDay_21
  rw [hHe, hLe] at goal0
  exact goal0
set_option maxHeartbeats 4000000 in
set_option maxRecDepth 100000 in
theorem C_X0_wellAbove (l : Launch) (D : va_G) (cy : Nat → ClassId) (a : Nat → Nat) (V : FV) (p1 : Int32) (p2 : Int32) (r : Int32) (hc : f_X0_wellAbove V p1 p2 = some r) : ConI l yX0_wellAbove wsX0_wellAbove 1 21 D cy (FW cy a) [.ref (a 0), .int p1, .int p2] V V r := by
  refine bodyI (cc := cX0_wellAbove) (maxL := 6) (ty := .int) (by decide +kernel) rfl (Nat.le_of_ble_eq_true rfl) ?_
  intro p e s m args below meth c A Q hx hb hml hts hown hK hP hD hA hS hend ls hl
  have hown : s.vm.findClass RX0 = some m.cls := hown
  have hP : va_P D vwCl (FW cy a V) s.heap := hP
  have hD : va_D A (FW cy a V) := hD
  have hl : lv_has ls 6 [(0, .ref (a 0)), (1, .int p1), (2, .int p2)] := hl
  have hend : ∀ (H : Heap) (locs : List Loc) (pc : Nat) (ls : Array Slot) (v : Int32), v = r → narrow .int (.int v) = .int v → va_P D vwCl (FW cy a V) H → va_D A (FW cy a V) → va_S A s.heap H locs → decode cX0_wellAbove pc = .ok (.ireturn, 1) → W p l e (RM 1 21) s m args below meth c H locs 0 0 Q (F0 m pc ls [.int v]) := fun H locs pc ls v h1 h3 h4 h5 h6 h7 => hend H locs pc ls v V h1 rfl h3 h4 h5 h6 h7
  have mm_l := hts (.methodLink RX0 49 Lib.Math.min.name) (by decide +kernel)
  have mm_s := hts (.static Lib.Math.min.name) (by decide +kernel)
  have mm_i := hts (.initialized "java/lang/Math") (by decide +kernel)
  have mm_c := hts (.code Lib.Math.min.name Lib.Math.min.code 2 (some .int)) (by decide +kernel)
  have fl_11 := hts (.fieldLink RX0 11 "NoonWells$Field" "wells" "[[I") (by decide +kernel)
  have inw_X0 := (by decide +kernel : ∀ w ∈ u_ws RX0 TX0 10, w ∈ wsX0_wellAbove)
  have L20 : ∀ (n : Nat), ∀ (y1 y2 y3 y4 y5 : Int32) (H : Heap) (locs : List Loc) (ls : Array Slot), f_X0_wellAbove_L20 V n y1 y2 y3 y4 y5 = some r → va_P D vwCl (FW cy a V) H → va_D A (FW cy a V) → va_S A s.heap H locs → lv_has ls 6 [(0, .ref (a 0)), (1, .int y1), (2, .int y2), (3, .int y3), (4, .int y4), (5, .int y5)] → W p l e (RM 1 21) s m args below meth c H locs 0 0 Q (F0 m 20 ls []) := by
    intro n
    induction n with
    | zero =>
      intro y1 y2 y3 y4 y5 H locs ls hc
      cases hc
    | succ n ih =>
      intro y1 y2 y3 y4 y5 H locs ls hc hP hD hS hl
      refine lv_iload hx hb dX0_wellAbove_20 (lv_at hl 5 rfl) ?_
      refine lv_iload_n hx hb dX0_wellAbove_22 rfl (lv_at hl 3 rfl) ?_
      refine lv_icmp_ge (tgt := 52) hx hb dX0_wellAbove_23 (by decide) (fun c3 => ?_) (fun c3 => ?_)
      · replace hc := ite_t c3 hc
        refine lv_iload hx hb dX0_wellAbove_52 (lv_at hl 4 rfl) ?_
        exact hend H locs _ _ _ (some_one hc) rfl hP hD hS dX0_wellAbove_54
      · replace hc := ite_f c3 hc
        refine lv_aload_n hx hb dX0_wellAbove_26 rfl (lv_at hl 0 rfl) ?_
        refine lv_iload hx hb dX0_wellAbove_27 (lv_at hl 4 rfl) ?_
        obtain ⟨x4, hc4, hc⟩ := b1_some hc
        refine gc_VI (n := 1) (q0 := 0) (ci := 0) (w' := FW cy a V) hx hb hml hown hts hK hP hD hS hA hl.1 ⟨Nat.le_refl _, Nat.le_refl _⟩ (C_X0_isWell l D cy a V y4 x4 hc4) gX0_wellAbove_X0_isWell rfl (by decide +kernel) rfl ⟨by decide, by decide⟩ Jn.same rfl rfl rfl (Nat.le_of_ble_eq_true rfl) dX0_wellAbove_29 (fun H locs hP hD hS => ?_)
        refine lv_if_eq (tgt := 52) hx hb dX0_wellAbove_32 (by decide) (fun c5 => ?_) (fun c5 => ?_)
        · replace hc := ite_t c5 hc
          refine lv_iload hx hb dX0_wellAbove_52 (lv_at hl 4 rfl) ?_
          exact hend H locs _ _ _ (some_one hc) rfl hP hD hS dX0_wellAbove_54
        · replace hc := ite_f c5 hc
          refine lv_aload_n hx hb dX0_wellAbove_35 rfl (lv_at hl 0 rfl) ?_
          refine va_get (ci := 0) (v := .ref (a 1)) (C := RX0) (T := TX0) (N := 10) hx hb hts inw_X0 hown hK.1 hP 0 rfl rfl 0 (by decide) fl_11 (fun _ h9 => h9) rfl dX0_wellAbove_36 ?_
          refine lv_iconst (v := 0) hx hb dX0_wellAbove_39 (by decide) ?_
          refine g_aald (v := a 6) hx hb hK hP 1 rfl (vp_lit (by decide)) rfl dX0_wellAbove_40 ?_
          refine lv_iload hx hb dX0_wellAbove_41 (lv_at hl 4 rfl) ?_
          obtain ⟨x6, hi6, hv6, hc⟩ := rd_some hc
          refine g_iald (x := x6) hx hb hK hP 6 rfl hi6 hv6 dX0_wellAbove_43 ?_
          refine lv_istore (lv' := [(4, .int x6), (0, .ref (a 0)), (1, .int y1), (2, .int y2), (3, .int y3), (5, .int y5)]) hx hb dX0_wellAbove_44 hl (by decide) rfl (fun ls hl => ?_)
          refine lv_iinc (v := y5 + 1) (lv' := [(5, .int (y5 + 1)), (4, .int x6), (0, .ref (a 0)), (1, .int y1), (2, .int y2), (3, .int y3)]) hx hb dX0_wellAbove_46 hl (k := 5) rfl rfl (by decide) rfl (fun ls hl => ?_)
          refine lv_goto (tgt := 20) hx hb dX0_wellAbove_49 (by decide) ?_
          exact ih y1 y2 y3 x6 (y5 + 1) H locs ls hc hP hD hS (lv_sub hl [2, 3, 4, 5, 1, 0] rfl)
  obtain ⟨H, hHe⟩ : ∃ H : Heap, H = s.heap := ⟨_, rfl⟩
  obtain ⟨locs, hLe⟩ : ∃ x : List Loc, x = [] := ⟨_, rfl⟩
  have hP : va_P D vwCl (FW cy a V) H := by rw [hHe]; exact hP
  have hS : va_S A s.heap H locs := by rw [hHe, hLe]; exact hS
  have goal0 : W p l e (RM 1 21) s m args below meth c H locs 0 0 Q (F0 m 0 ls []) := by
    refine lv_iload_n hx hb dX0_wellAbove_0 rfl (lv_at hl 2 rfl) ?_
    refine lv_bipush (v := 12) hx hb dX0_wellAbove_1 (by decide +kernel) ?_
    obtain ⟨x1, ex1, hc⟩ := lt1_some hc
    refine g_min ex1 hx hb hml hl.1 hown mm_l mm_s mm_i mm_c (Nat.le_of_ble_eq_true rfl) (Nat.le_of_ble_eq_true rfl) (Nat.le_refl _) (Nat.le_refl _) dX0_wellAbove_3 ?_
    refine lv_istore_n (lv' := [(3, .int x1), (0, .ref (a 0)), (1, .int p1), (2, .int p2)]) hx hb dX0_wellAbove_6 rfl hl (by decide) rfl (fun ls hl => ?_)
    refine lv_aload_n hx hb dX0_wellAbove_7 rfl (lv_at hl 1 rfl) ?_
    refine va_get (ci := 0) (v := .ref (a 1)) (C := RX0) (T := TX0) (N := 10) hx hb hts inw_X0 hown hK.1 hP 0 rfl rfl 0 (by decide) fl_11 (fun _ h9 => h9) rfl dX0_wellAbove_8 ?_
    refine lv_iconst (v := 0) hx hb dX0_wellAbove_11 (by decide) ?_
    refine g_aald (v := a 6) hx hb hK hP 1 rfl (vp_lit (by decide)) rfl dX0_wellAbove_12 ?_
    refine lv_iload_n hx hb dX0_wellAbove_13 rfl (lv_at hl 2 rfl) ?_
    obtain ⟨x2, hi2, hv2, hc⟩ := rd_some hc
    refine g_iald (x := x2) hx hb hK hP 6 rfl hi2 hv2 dX0_wellAbove_14 ?_
    refine lv_istore (lv' := [(4, .int x2), (3, .int x1), (0, .ref (a 0)), (1, .int p1), (2, .int p2)]) hx hb dX0_wellAbove_15 hl (by decide) rfl (fun ls hl => ?_)
    refine lv_iconst (v := 0) hx hb dX0_wellAbove_17 (by decide) ?_
    refine lv_istore (lv' := [(5, .int 0), (4, .int x2), (3, .int x1), (0, .ref (a 0)), (1, .int p1), (2, .int p2)]) hx hb dX0_wellAbove_18 hl (by decide) rfl (fun ls hl => ?_)
    exact L20 FUEL p1 p2 x1 x2 0 H locs ls hc hP hD hS (lv_sub hl [3, 4, 5, 2, 1, 0] rfl)
  rw [hHe, hLe] at goal0
  exact goal0
set_option maxHeartbeats 4000000 in
set_option maxRecDepth 100000 in
theorem C_X0_dryWells (l : Launch) (D : va_G) (cy : Nat → ClassId) (a : Nat → Nat) (V : FV) (p1 : Int32) (r : Int32) (hc : f_X0_dryWells V p1 = some r) : ConI l yX0_dryWells wsX0_dryWells 0 0 D cy (FW cy a) [.ref (a 0), .int p1] V V r := by
  refine bodyI (cc := cX0_dryWells) (maxL := 4) (ty := .int) (by decide +kernel) rfl (Nat.le_of_ble_eq_true rfl) ?_
  intro p e s m args below meth c A Q hx hb hml hts hown hK hP hD hA hS hend ls hl
  have hown : s.vm.findClass RX0 = some m.cls := hown
  have hP : va_P D vwCl (FW cy a V) s.heap := hP
  have hD : va_D A (FW cy a V) := hD
  have hl : lv_has ls 4 [(0, .ref (a 0)), (1, .int p1)] := hl
  have hend : ∀ (H : Heap) (locs : List Loc) (pc : Nat) (ls : Array Slot) (v : Int32), v = r → narrow .int (.int v) = .int v → va_P D vwCl (FW cy a V) H → va_D A (FW cy a V) → va_S A s.heap H locs → decode cX0_dryWells pc = .ok (.ireturn, 1) → W p l e (RM 0 0) s m args below meth c H locs 0 0 Q (F0 m pc ls [.int v]) := fun H locs pc ls v h1 h3 h4 h5 h6 h7 => hend H locs pc ls v V h1 rfl h3 h4 h5 h6 h7
  have fl_37 := hts (.fieldLink RX0 37 "NoonWells$Field" "droughtCount" "I") (by decide +kernel)
  have inw_X0 := (by decide +kernel : ∀ w ∈ u_ws RX0 TX0 10, w ∈ wsX0_dryWells)
  have fl_16 := hts (.fieldLink RX0 16 "NoonWells$Field" "droughts" "[[I") (by decide +kernel)
  have L4 : ∀ (n : Nat), ∀ (y1 y2 y3 : Int32) (H : Heap) (locs : List Loc) (ls : Array Slot), f_X0_dryWells_L4 V n y1 y2 y3 = some r → va_P D vwCl (FW cy a V) H → va_D A (FW cy a V) → va_S A s.heap H locs → lv_has ls 4 [(0, .ref (a 0)), (1, .int y1), (2, .int y2), (3, .int y3)] → W p l e (RM 0 0) s m args below meth c H locs 0 0 Q (F0 m 4 ls []) := by
    intro n
    induction n with
    | zero =>
      intro y1 y2 y3 H locs ls hc
      cases hc
    | succ n ih =>
      intro y1 y2 y3 H locs ls hc hP hD hS hl
      refine lv_iload_n hx hb dX0_dryWells_4 rfl (lv_at hl 3 rfl) ?_
      refine lv_aload_n hx hb dX0_dryWells_5 rfl (lv_at hl 0 rfl) ?_
      refine va_get (ci := 0) (v := .int (V 0 1)) (C := RX0) (T := TX0) (N := 10) hx hb hts inw_X0 hown hK.1 hP 0 rfl rfl 6 (by decide) fl_37 (fun _ h9 => h9) rfl dX0_dryWells_6 ?_
      refine lv_icmp_ge (tgt := 55) hx hb dX0_dryWells_9 (by decide) (fun c1 => ?_) (fun c1 => ?_)
      · replace hc := ite_t c1 hc
        refine lv_iload_n hx hb dX0_dryWells_55 rfl (lv_at hl 2 rfl) ?_
        exact hend H locs _ _ _ (some_one hc) rfl hP hD hS dX0_dryWells_56
      · replace hc := ite_f c1 hc
        refine lv_aload_n hx hb dX0_dryWells_12 rfl (lv_at hl 0 rfl) ?_
        refine va_get (ci := 0) (v := .ref (a 2)) (C := RX0) (T := TX0) (N := 10) hx hb hts inw_X0 hown hK.1 hP 0 rfl rfl 1 (by decide) fl_16 (fun _ h9 => h9) rfl dX0_dryWells_13 ?_
        refine lv_iconst (v := 1) hx hb dX0_dryWells_16 (by decide) ?_
        refine g_aald (v := a 20) hx hb hK hP 2 rfl (vp_lit (by decide)) rfl dX0_dryWells_17 ?_
        refine lv_iload_n hx hb dX0_dryWells_18 rfl (lv_at hl 3 rfl) ?_
        obtain ⟨x2, hi2, hv2, hc⟩ := rd_some hc
        refine g_iald (x := x2) hx hb hK hP 20 rfl hi2 hv2 dX0_dryWells_19 ?_
        refine lv_iload_n hx hb dX0_dryWells_20 rfl (lv_at hl 1 rfl) ?_
        refine lv_icmp_gt (tgt := 49) hx hb dX0_dryWells_21 (by decide) (fun c3 => ?_) (fun c3 => ?_)
        · replace hc := ite_t c3 hc
          refine lv_iinc (v := y3 + 1) (lv' := [(3, .int (y3 + 1)), (0, .ref (a 0)), (1, .int y1), (2, .int y2)]) hx hb dX0_dryWells_49 hl (k := 3) rfl rfl (by decide) rfl (fun ls hl => ?_)
          refine lv_goto (tgt := 4) hx hb dX0_dryWells_52 (by decide) ?_
          exact ih y1 y2 (y3 + 1) H locs ls hc hP hD hS (lv_sub hl [1, 2, 3, 0] rfl)
        · replace hc := ite_f c3 hc
          refine lv_iload_n hx hb dX0_dryWells_24 rfl (lv_at hl 1 rfl) ?_
          refine lv_aload_n hx hb dX0_dryWells_25 rfl (lv_at hl 0 rfl) ?_
          refine va_get (ci := 0) (v := .ref (a 2)) (C := RX0) (T := TX0) (N := 10) hx hb hts inw_X0 hown hK.1 hP 0 rfl rfl 1 (by decide) fl_16 (fun _ h9 => h9) rfl dX0_dryWells_26 ?_
          refine lv_iconst (v := 2) hx hb dX0_dryWells_29 (by decide) ?_
          refine g_aald (v := a 21) hx hb hK hP 2 rfl (vp_lit (by decide)) rfl dX0_dryWells_30 ?_
          refine lv_iload_n hx hb dX0_dryWells_31 rfl (lv_at hl 3 rfl) ?_
          obtain ⟨x4, hi4, hv4, hc⟩ := rd_some hc
          refine g_iald (x := x4) hx hb hK hP 21 rfl hi4 hv4 dX0_dryWells_32 ?_
          refine lv_icmp_gt (tgt := 49) hx hb dX0_dryWells_33 (by decide) (fun c5 => ?_) (fun c5 => ?_)
          · replace hc := ite_t c5 hc
            refine lv_iinc (v := y3 + 1) (lv' := [(3, .int (y3 + 1)), (0, .ref (a 0)), (1, .int y1), (2, .int y2)]) hx hb dX0_dryWells_49 hl (k := 3) rfl rfl (by decide) rfl (fun ls hl => ?_)
            refine lv_goto (tgt := 4) hx hb dX0_dryWells_52 (by decide) ?_
            exact ih y1 y2 (y3 + 1) H locs ls hc hP hD hS (lv_sub hl [1, 2, 3, 0] rfl)
          · replace hc := ite_f c5 hc
            refine lv_iload_n hx hb dX0_dryWells_36 rfl (lv_at hl 2 rfl) ?_
            refine lv_iconst (v := 1) hx hb dX0_dryWells_37 (by decide) ?_
            refine lv_aload_n hx hb dX0_dryWells_38 rfl (lv_at hl 0 rfl) ?_
            refine va_get (ci := 0) (v := .ref (a 2)) (C := RX0) (T := TX0) (N := 10) hx hb hts inw_X0 hown hK.1 hP 0 rfl rfl 1 (by decide) fl_16 (fun _ h9 => h9) rfl dX0_dryWells_39 ?_
            refine lv_iconst (v := 0) hx hb dX0_dryWells_42 (by decide) ?_
            refine g_aald (v := a 19) hx hb hK hP 2 rfl (vp_lit (by decide)) rfl dX0_dryWells_43 ?_
            refine lv_iload_n hx hb dX0_dryWells_44 rfl (lv_at hl 3 rfl) ?_
            obtain ⟨x6, hi6, hv6, hc⟩ := rd_some hc
            refine g_iald (x := x6) hx hb hK hP 19 rfl hi6 hv6 dX0_dryWells_45 ?_
            refine lv_ishl hx hb dX0_dryWells_46 ?_
            refine lv_ior hx hb dX0_dryWells_47 ?_
            refine lv_istore_n (lv' := [(2, .int (y2 ||| (1 <<< (x6 &&& 31)))), (0, .ref (a 0)), (1, .int y1), (3, .int y3)]) hx hb dX0_dryWells_48 rfl hl (by decide) rfl (fun ls hl => ?_)
            refine lv_iinc (v := y3 + 1) (lv' := [(3, .int (y3 + 1)), (2, .int (y2 ||| (1 <<< (x6 &&& 31)))), (0, .ref (a 0)), (1, .int y1)]) hx hb dX0_dryWells_49 hl (k := 3) rfl rfl (by decide) rfl (fun ls hl => ?_)
            refine lv_goto (tgt := 4) hx hb dX0_dryWells_52 (by decide) ?_
            exact ih y1 (y2 ||| (1 <<< (x6 &&& 31))) (y3 + 1) H locs ls hc hP hD hS (lv_sub hl [2, 3, 1, 0] rfl)
  obtain ⟨H, hHe⟩ : ∃ H : Heap, H = s.heap := ⟨_, rfl⟩
  obtain ⟨locs, hLe⟩ : ∃ x : List Loc, x = [] := ⟨_, rfl⟩
  have hP : va_P D vwCl (FW cy a V) H := by rw [hHe]; exact hP
  have hS : va_S A s.heap H locs := by rw [hHe, hLe]; exact hS
  have goal0 : W p l e (RM 0 0) s m args below meth c H locs 0 0 Q (F0 m 0 ls []) := by
    refine lv_iconst (v := 0) hx hb dX0_dryWells_0 (by decide) ?_
    refine lv_istore_n (lv' := [(2, .int 0), (0, .ref (a 0)), (1, .int p1)]) hx hb dX0_dryWells_1 rfl hl (by decide) rfl (fun ls hl => ?_)
    refine lv_iconst (v := 0) hx hb dX0_dryWells_2 (by decide) ?_
    refine lv_istore_n (lv' := [(3, .int 0), (2, .int 0), (0, .ref (a 0)), (1, .int p1)]) hx hb dX0_dryWells_3 rfl hl (by decide) rfl (fun ls hl => ?_)
    exact L4 FUEL p1 0 0 H locs ls hc hP hD hS (lv_sub hl [2, 3, 1, 0] rfl)
  rw [hHe, hLe] at goal0
  exact goal0
set_option maxHeartbeats 4000000 in
set_option maxRecDepth 100000 in
theorem C_X0_isDry (l : Launch) (D : va_G) (cy : Nat → ClassId) (a : Nat → Nat) (V : FV) (p1 : Int32) (p2 : Int32) (r : Int32) (hc : f_X0_isDry V p1 p2 = some r) : ConI l yX0_isDry wsX0_isDry 1 23 D cy (FW cy a) [.ref (a 0), .int p1, .int p2] V V r := by
  refine bodyI (cc := cX0_isDry) (maxL := 3) (ty := .boolean) (by decide +kernel) rfl (Nat.le_of_ble_eq_true rfl) ?_
  intro p e s m args below meth c A Q hx hb hml hts hown hK hP hD hA hS hend ls hl
  have hown : s.vm.findClass RX0 = some m.cls := hown
  have hP : va_P D vwCl (FW cy a V) s.heap := hP
  have hD : va_D A (FW cy a V) := hD
  have hl : lv_has ls 3 [(0, .ref (a 0)), (1, .int p1), (2, .int p2)] := hl
  have hend : ∀ (H : Heap) (locs : List Loc) (pc : Nat) (ls : Array Slot) (v : Int32), v = r → narrow .boolean (.int v) = .int v → va_P D vwCl (FW cy a V) H → va_D A (FW cy a V) → va_S A s.heap H locs → decode cX0_isDry pc = .ok (.ireturn, 1) → W p l e (RM 1 23) s m args below meth c H locs 0 0 Q (F0 m pc ls [.int v]) := fun H locs pc ls v h1 h3 h4 h5 h6 h7 => hend H locs pc ls v V h1 rfl h3 h4 h5 h6 h7
  obtain ⟨H, hHe⟩ : ∃ H : Heap, H = s.heap := ⟨_, rfl⟩
  obtain ⟨locs, hLe⟩ : ∃ x : List Loc, x = [] := ⟨_, rfl⟩
  have hP : va_P D vwCl (FW cy a V) H := by rw [hHe]; exact hP
  have hS : va_S A s.heap H locs := by rw [hHe, hLe]; exact hS
  have goal0 : W p l e (RM 1 23) s m args below meth c H locs 0 0 Q (F0 m 0 ls []) := by
    refine lv_aload_n hx hb dX0_isDry_0 rfl (lv_at hl 0 rfl) ?_
    refine lv_iload_n hx hb dX0_isDry_1 rfl (lv_at hl 2 rfl) ?_
    obtain ⟨x1, hc1, hc⟩ := b1_some hc
    refine gc_VI (n := 1) (q0 := 0) (ci := 0) (w' := FW cy a V) hx hb hml hown hts hK hP hD hS hA hl.1 ⟨Nat.le_refl _, Nat.le_refl _⟩ (C_X0_dryWells l D cy a V p2 x1 hc1) gX0_isDry_X0_dryWells rfl (by decide +kernel) rfl ⟨by decide, by decide⟩ Jn.same rfl rfl rfl (Nat.le_of_ble_eq_true rfl) dX0_isDry_2 (fun H locs hP hD hS => ?_)
    refine lv_iload_n hx hb dX0_isDry_5 rfl (lv_at hl 1 rfl) ?_
    refine lv_ishr hx hb dX0_isDry_6 ?_
    refine lv_iconst (v := 1) hx hb dX0_isDry_7 (by decide) ?_
    refine lv_iand hx hb dX0_isDry_8 ?_
    refine lv_iconst (v := 1) hx hb dX0_isDry_9 (by decide) ?_
    refine lv_icmp_ne (tgt := 17) hx hb dX0_isDry_10 (by decide) (fun c2 => ?_) (fun c2 => ?_)
    · replace hc := ite_f c2 hc
      refine lv_iconst (v := 0) hx hb dX0_isDry_17 (by decide) ?_
      exact hend H locs _ _ _ (some_one hc) rfl hP hD hS dX0_isDry_18
    · replace hc := ite_t c2 hc
      refine lv_iconst (v := 1) hx hb dX0_isDry_13 (by decide) ?_
      refine lv_goto (tgt := 18) hx hb dX0_isDry_14 (by decide) ?_
      exact hend H locs _ _ _ (some_one hc) rfl hP hD hS dX0_isDry_18
  rw [hHe, hLe] at goal0
  exact goal0
set_option maxHeartbeats 4000000 in
set_option maxRecDepth 100000 in
theorem C_X0_roomIn (l : Launch) (D : va_G) (cy : Nat → ClassId) (a : Nat → Nat) (V : FV) (p1 : Int32) (r : Int32) (hc : f_X0_roomIn V p1 = some r) : ConI l yX0_roomIn wsX0_roomIn 0 0 D cy (FW cy a) [.ref (a 0), .int p1] V V r := by
  refine bodyI (cc := cX0_roomIn) (maxL := 2) (ty := .int) (by decide +kernel) rfl (Nat.le_of_ble_eq_true rfl) ?_
  intro p e s m args below meth c A Q hx hb hml hts hown hK hP hD hA hS hend ls hl
  have hown : s.vm.findClass RX0 = some m.cls := hown
  have hP : va_P D vwCl (FW cy a V) s.heap := hP
  have hD : va_D A (FW cy a V) := hD
  have hl : lv_has ls 2 [(0, .ref (a 0)), (1, .int p1)] := hl
  have hend : ∀ (H : Heap) (locs : List Loc) (pc : Nat) (ls : Array Slot) (v : Int32), v = r → narrow .int (.int v) = .int v → va_P D vwCl (FW cy a V) H → va_D A (FW cy a V) → va_S A s.heap H locs → decode cX0_roomIn pc = .ok (.ireturn, 1) → W p l e (RM 0 0) s m args below meth c H locs 0 0 Q (F0 m pc ls [.int v]) := fun H locs pc ls v h1 h3 h4 h5 h6 h7 => hend H locs pc ls v V h1 rfl h3 h4 h5 h6 h7
  have fl_11 := hts (.fieldLink RX0 11 "NoonWells$Field" "wells" "[[I") (by decide +kernel)
  have inw_X0 := (by decide +kernel : ∀ w ∈ u_ws RX0 TX0 10, w ∈ wsX0_roomIn)
  obtain ⟨H, hHe⟩ : ∃ H : Heap, H = s.heap := ⟨_, rfl⟩
  obtain ⟨locs, hLe⟩ : ∃ x : List Loc, x = [] := ⟨_, rfl⟩
  have hP : va_P D vwCl (FW cy a V) H := by rw [hHe]; exact hP
  have hS : va_S A s.heap H locs := by rw [hHe, hLe]; exact hS
  have goal0 : W p l e (RM 0 0) s m args below meth c H locs 0 0 Q (F0 m 0 ls []) := by
    refine lv_aload_n hx hb dX0_roomIn_0 rfl (lv_at hl 0 rfl) ?_
    refine va_get (ci := 0) (v := .ref (a 1)) (C := RX0) (T := TX0) (N := 10) hx hb hts inw_X0 hown hK.1 hP 0 rfl rfl 0 (by decide) fl_11 (fun _ h9 => h9) rfl dX0_roomIn_1 ?_
    refine lv_iconst (v := 1) hx hb dX0_roomIn_4 (by decide) ?_
    refine g_aald (v := a 7) hx hb hK hP 1 rfl (vp_lit (by decide)) rfl dX0_roomIn_5 ?_
    refine lv_iload_n hx hb dX0_roomIn_6 rfl (lv_at hl 1 rfl) ?_
    obtain ⟨x1, hi1, hv1, hc⟩ := rd_some hc
    refine g_iald (x := x1) hx hb hK hP 7 rfl hi1 hv1 dX0_roomIn_7 ?_
    refine lv_aload_n hx hb dX0_roomIn_8 rfl (lv_at hl 0 rfl) ?_
    refine va_get (ci := 0) (v := .ref (a 1)) (C := RX0) (T := TX0) (N := 10) hx hb hts inw_X0 hown hK.1 hP 0 rfl rfl 0 (by decide) fl_11 (fun _ h9 => h9) rfl dX0_roomIn_9 ?_
    refine lv_iconst (v := 4) hx hb dX0_roomIn_12 (by decide) ?_
    refine g_aald (v := a 10) hx hb hK hP 1 rfl (vp_lit (by decide)) rfl dX0_roomIn_13 ?_
    refine lv_iload_n hx hb dX0_roomIn_14 rfl (lv_at hl 1 rfl) ?_
    obtain ⟨x2, hi2, hv2, hc⟩ := rd_some hc
    refine g_iald (x := x2) hx hb hK hP 10 rfl hi2 hv2 dX0_roomIn_15 ?_
    refine lv_isub hx hb dX0_roomIn_16 ?_
    exact hend H locs _ _ _ (some_one hc) rfl hP hD hS dX0_roomIn_17
  rw [hHe, hLe] at goal0
  exact goal0
