set_option maxHeartbeats 4000000 in
set_option maxRecDepth 100000 in
theorem C_X0_passTick (l : Launch) (D : va_G) (cy : Nat → ClassId) (a : Nat → Nat) (V : FV) (r : Int32) (V' : FV) (hc : f_X0_passTick V = some (r, V')) : ConI l yX0_passTick wsX0_passTick 3 76 D cy (FW cy a) [.ref (a 0)] V V' r := by
  refine bodyI (cc := cX0_passTick) (maxL := 1) (ty := .int) (by decide +kernel) rfl (Nat.le_of_ble_eq_true rfl) ?_
  intro p e s m args below meth c A Q hx hb hml hts hown hK hP hD hA hS hend ls hl
  have hown : s.vm.findClass RX0 = some m.cls := hown
  have hP : va_P D vwCl (FW cy a V) s.heap := hP
  have hD : va_D A (FW cy a V) := hD
  have hl : lv_has ls 1 [(0, .ref (a 0))] := hl
  have hend : ∀ (H : Heap) (locs : List Loc) (pc : Nat) (ls : Array Slot) (v : Int32) (V : FV), v = r → V = V' → narrow .int (.int v) = .int v → va_P D vwCl (FW cy a V) H → va_D A (FW cy a V) → va_S A s.heap H locs → decode cX0_passTick pc = .ok (.ireturn, 1) → W p l e (RM 3 76) s m args below meth c H locs 0 0 Q (F0 m pc ls [.int v]) := fun H locs pc ls v V h1 h2 h3 h4 h5 h6 h7 => hend H locs pc ls v V h1 h2 h3 h4 h5 h6 h7
  have fl_43 := hts (.fieldLink RX0 43 "NoonWells$Field" "time" "I") (by decide +kernel)
  have inw_X0 := (by decide +kernel : ∀ w ∈ u_ws RX0 TX0 10, w ∈ wsX0_passTick)
  have fl_22 := hts (.fieldLink RX0 22 "NoonWells$Field" "settings" "[I") (by decide +kernel)
  obtain ⟨H, hHe⟩ : ∃ H : Heap, H = s.heap := ⟨_, rfl⟩
  obtain ⟨locs, hLe⟩ : ∃ x : List Loc, x = [] := ⟨_, rfl⟩
  have hP : va_P D vwCl (FW cy a V) H := by rw [hHe]; exact hP
  have hS : va_S A s.heap H locs := by rw [hHe, hLe]; exact hS
  have goal0 : W p l e (RM 3 76) s m args below meth c H locs 0 0 Q (F0 m 0 ls []) := by
    refine lv_aload_n hx hb dX0_passTick_0 rfl (lv_at hl 0 rfl) ?_
    refine lv_dup hx hb dX0_passTick_1 rfl ?_
    refine va_get (ci := 0) (v := .int (V 0 3)) (C := RX0) (T := TX0) (N := 10) hx hb hts inw_X0 hown hK.1 hP 0 rfl rfl 8 (by decide) fl_43 (fun _ h9 => h9) rfl dX0_passTick_2 ?_
    refine lv_iconst (v := 1) hx hb dX0_passTick_5 (by decide) ?_
    refine lv_iadd hx hb dX0_passTick_6 ?_
    obtain ⟨V1, eV1, hc⟩ := lt1_some hc
    refine g_put (ci := 0) (C := RX0) (T := TX0) (N := 10) (w' := FW cy a V1) hx hb hts inw_X0 tyX0 tyX0_ok nmX0 hown hK hP hD hS 0 rfl rfl 8 (by decide) fl_43 (fun _ h9 => h9) rfl (by decide +kernel) (Nat.le_of_ble_eq_true rfl) (by rw [← eV1]; rfl) dX0_passTick_7 (fun H locs hP hD hS => ?_)
    refine lv_aload_n hx hb dX0_passTick_10 rfl (lv_at hl 0 rfl) ?_
    obtain ⟨V2, hc2, hc⟩ := b1_some hc
    refine gc_VV (n := 0) (q0 := 0) (ci := 0) (w' := FW cy a V2) hx hb hml hown hts hK hP hD hS hA hl.1 ⟨Nat.le_refl _, Nat.le_refl _⟩ (C_X0_flowIn l D cy a V1 V2 hc2) gX0_passTick_X0_flowIn rfl (by decide +kernel) rfl ⟨by decide, by decide⟩ Jn.same rfl rfl rfl (Nat.le_of_ble_eq_true rfl) dX0_passTick_11 (fun H locs hP hD hS => ?_)
    refine lv_aload_n hx hb dX0_passTick_14 rfl (lv_at hl 0 rfl) ?_
    obtain ⟨x3, hc3, hc⟩ := b1_some hc
    refine gc_VI (n := 0) (q0 := 0) (ci := 0) (w' := FW cy a V2) hx hb hml hown hts hK hP hD hS hA hl.1 ⟨Nat.le_refl _, Nat.le_refl _⟩ (C_X0_timeOfDay l D cy a V2 x3 hc3) gX0_passTick_X0_timeOfDay rfl (by decide +kernel) rfl ⟨by decide, by decide⟩ Jn.same rfl rfl rfl (Nat.le_of_ble_eq_true rfl) dX0_passTick_15 (fun H locs hP hD hS => ?_)
    refine lv_if_ne (tgt := 29) hx hb dX0_passTick_18 (by decide) (fun c4 => ?_) (fun c4 => ?_)
    · replace hc := ite_f c4 hc
      refine lv_aload_n hx hb dX0_passTick_29 rfl (lv_at hl 0 rfl) ?_
      obtain ⟨x5, hc5, hc⟩ := b1_some hc
      refine gc_VI (n := 0) (q0 := 0) (ci := 0) (w' := FW cy a V2) hx hb hml hown hts hK hP hD hS hA hl.1 ⟨Nat.le_refl _, Nat.le_refl _⟩ (C_X0_timeOfDay l D cy a V2 x5 hc5) gX0_passTick_X0_timeOfDay rfl (by decide +kernel) rfl ⟨by decide, by decide⟩ Jn.same rfl rfl rfl (Nat.le_of_ble_eq_true rfl) dX0_passTick_30 (fun H locs hP hD hS => ?_)
      refine lv_aload_n hx hb dX0_passTick_33 rfl (lv_at hl 0 rfl) ?_
      refine va_get (ci := 0) (v := .ref (a 4)) (C := RX0) (T := TX0) (N := 10) hx hb hts inw_X0 hown hK.1 hP 0 rfl rfl 3 (by decide) fl_22 (fun _ h9 => h9) rfl dX0_passTick_34 ?_
      refine lv_iconst (v := 0) hx hb dX0_passTick_37 (by decide) ?_
      refine g_iald (x := V2 4 0) hx hb hK hP 4 rfl (vp_lit (by decide)) rfl dX0_passTick_38 ?_
      refine lv_iconst (v := 2) hx hb dX0_passTick_39 (by decide) ?_
      refine lv_idiv hx hb dX0_passTick_40 (by decide) ?_
      refine lv_icmp_ne (tgt := 48) hx hb dX0_passTick_41 (by decide) (fun c6 => ?_) (fun c6 => ?_)
      · replace hc := ite_f c6 hc
        refine lv_aload_n hx hb dX0_passTick_48 rfl (lv_at hl 0 rfl) ?_
        obtain ⟨x7, V7, hc7, hc⟩ := b2_some hc
        refine gc_VI (n := 0) (q0 := 0) (ci := 0) (w' := FW cy a V7) hx hb hml hown hts hK hP hD hS hA hl.1 ⟨Nat.le_refl _, Nat.le_refl _⟩ (C_X0_serveWaiting l D cy a V2 x7 V7 hc7) gX0_passTick_X0_serveWaiting rfl (by decide +kernel) rfl ⟨by decide, by decide⟩ Jn.same rfl rfl rfl (Nat.le_of_ble_eq_true rfl) dX0_passTick_49 (fun H locs hP hD hS => ?_)
        exact hend H locs _ _ _ _ (some_fst hc) (some_snd hc) rfl hP hD hS dX0_passTick_52
      · replace hc := ite_t c6 hc
        refine lv_aload_n hx hb dX0_passTick_44 rfl (lv_at hl 0 rfl) ?_
        obtain ⟨V8, hc8, hc⟩ := b1_some hc
        refine gc_VV (n := 0) (q0 := 0) (ci := 0) (w' := FW cy a V8) hx hb hml hown hts hK hP hD hS hA hl.1 ⟨Nat.le_refl _, Nat.le_refl _⟩ (C_X0_payBackInEvening l D cy a V2 V8 hc8) gX0_passTick_X0_payBackInEvening rfl (by decide +kernel) rfl ⟨by decide, by decide⟩ Jn.same rfl rfl rfl (Nat.le_of_ble_eq_true rfl) dX0_passTick_45 (fun H locs hP hD hS => ?_)
        refine lv_aload_n hx hb dX0_passTick_48 rfl (lv_at hl 0 rfl) ?_
        obtain ⟨x9, V9, hc9, hc⟩ := b2_some hc
        refine gc_VI (n := 0) (q0 := 0) (ci := 0) (w' := FW cy a V9) hx hb hml hown hts hK hP hD hS hA hl.1 ⟨Nat.le_refl _, Nat.le_refl _⟩ (C_X0_serveWaiting l D cy a V8 x9 V9 hc9) gX0_passTick_X0_serveWaiting rfl (by decide +kernel) rfl ⟨by decide, by decide⟩ Jn.same rfl rfl rfl (Nat.le_of_ble_eq_true rfl) dX0_passTick_49 (fun H locs hP hD hS => ?_)
        exact hend H locs _ _ _ _ (some_fst hc) (some_snd hc) rfl hP hD hS dX0_passTick_52
    · replace hc := ite_t c4 hc
      refine lv_aload_n hx hb dX0_passTick_21 rfl (lv_at hl 0 rfl) ?_
      obtain ⟨x10, V10, hc10, hc⟩ := b2_some hc
      refine gc_VI (n := 0) (q0 := 0) (ci := 0) (w' := FW cy a V10) hx hb hml hown hts hK hP hD hS hA hl.1 ⟨Nat.le_refl _, Nat.le_refl _⟩ (C_X0_lendAtNoon l D cy a V2 x10 V10 hc10) gX0_passTick_X0_lendAtNoon rfl (by decide +kernel) rfl ⟨by decide, by decide⟩ Jn.same rfl rfl rfl (Nat.le_of_ble_eq_true rfl) dX0_passTick_22 (fun H locs hP hD hS => ?_)
      refine lv_pop hx hb dX0_passTick_25 rfl ?_
      refine lv_goto (tgt := 48) hx hb dX0_passTick_26 (by decide) ?_
      refine lv_aload_n hx hb dX0_passTick_48 rfl (lv_at hl 0 rfl) ?_
      obtain ⟨x11, V11, hc11, hc⟩ := b2_some hc
      refine gc_VI (n := 0) (q0 := 0) (ci := 0) (w' := FW cy a V11) hx hb hml hown hts hK hP hD hS hA hl.1 ⟨Nat.le_refl _, Nat.le_refl _⟩ (C_X0_serveWaiting l D cy a V10 x11 V11 hc11) gX0_passTick_X0_serveWaiting rfl (by decide +kernel) rfl ⟨by decide, by decide⟩ Jn.same rfl rfl rfl (Nat.le_of_ble_eq_true rfl) dX0_passTick_49 (fun H locs hP hD hS => ?_)
      exact hend H locs _ _ _ _ (some_fst hc) (some_snd hc) rfl hP hD hS dX0_passTick_52
  rw [hHe, hLe] at goal0
  exact goal0
set_option maxHeartbeats 4000000 in
set_option maxRecDepth 100000 in
theorem C_X0_passTicks (l : Launch) (D : va_G) (cy : Nat → ClassId) (a : Nat → Nat) (V : FV) (p1 : Int32) (r : Int32) (V' : FV) (hc : f_X0_passTicks V p1 = some (r, V')) : ConI l yX0_passTicks wsX0_passTicks 4 96 D cy (FW cy a) [.ref (a 0), .int p1] V V' r := by
  refine bodyI (cc := cX0_passTicks) (maxL := 4) (ty := .int) (by decide +kernel) rfl (Nat.le_of_ble_eq_true rfl) ?_
  intro p e s m args below meth c A Q hx hb hml hts hown hK hP hD hA hS hend ls hl
  have hown : s.vm.findClass RX0 = some m.cls := hown
  have hP : va_P D vwCl (FW cy a V) s.heap := hP
  have hD : va_D A (FW cy a V) := hD
  have hl : lv_has ls 4 [(0, .ref (a 0)), (1, .int p1)] := hl
  have hend : ∀ (H : Heap) (locs : List Loc) (pc : Nat) (ls : Array Slot) (v : Int32) (V : FV), v = r → V = V' → narrow .int (.int v) = .int v → va_P D vwCl (FW cy a V) H → va_D A (FW cy a V) → va_S A s.heap H locs → decode cX0_passTicks pc = .ok (.ireturn, 1) → W p l e (RM 4 96) s m args below meth c H locs 0 0 Q (F0 m pc ls [.int v]) := fun H locs pc ls v V h1 h2 h3 h4 h5 h6 h7 => hend H locs pc ls v V h1 h2 h3 h4 h5 h6 h7
  have fl_43 := hts (.fieldLink RX0 43 "NoonWells$Field" "time" "I") (by decide +kernel)
  have inw_X0 := (by decide +kernel : ∀ w ∈ u_ws RX0 TX0 10, w ∈ wsX0_passTicks)
  have L32 : ∀ (n : Nat), ∀ (y1 y2 y3 : Int32) (V : FV) (H : Heap) (locs : List Loc) (ls : Array Slot), f_X0_passTicks_L32 n y1 y2 y3 V = some (r, V') → va_P D vwCl (FW cy a V) H → va_D A (FW cy a V) → va_S A s.heap H locs → lv_has ls 4 [(0, .ref (a 0)), (1, .int y1), (2, .int y2), (3, .int y3)] → W p l e (RM 4 96) s m args below meth c H locs 0 0 Q (F0 m 32 ls []) := by
    intro n
    induction n with
    | zero =>
      intro y1 y2 y3 V H locs ls hc
      cases hc
    | succ n ih =>
      intro y1 y2 y3 V H locs ls hc hP hD hS hl
      refine lv_iload_n hx hb dX0_passTicks_32 rfl (lv_at hl 3 rfl) ?_
      refine lv_iload_n hx hb dX0_passTicks_33 rfl (lv_at hl 1 rfl) ?_
      refine lv_icmp_ge (tgt := 50) hx hb dX0_passTicks_34 (by decide) (fun c4 => ?_) (fun c4 => ?_)
      · replace hc := ite_t c4 hc
        refine lv_iload_n hx hb dX0_passTicks_50 rfl (lv_at hl 2 rfl) ?_
        exact hend H locs _ _ _ _ (some_fst hc) (some_snd hc) rfl hP hD hS dX0_passTicks_51
      · replace hc := ite_f c4 hc
        refine lv_iload_n hx hb dX0_passTicks_37 rfl (lv_at hl 2 rfl) ?_
        refine lv_aload_n hx hb dX0_passTicks_38 rfl (lv_at hl 0 rfl) ?_
        obtain ⟨x5, V5, hc5, hc⟩ := b2_some hc
        refine gc_VI (n := 0) (q0 := 0) (ci := 0) (w' := FW cy a V5) hx hb hml hown hts hK hP hD hS hA hl.1 ⟨Nat.le_refl _, Nat.le_refl _⟩ (C_X0_passTick l D cy a V x5 V5 hc5) gX0_passTicks_X0_passTick rfl (by decide +kernel) rfl ⟨by decide, by decide⟩ Jn.same rfl rfl rfl (Nat.le_of_ble_eq_true rfl) dX0_passTicks_39 (fun H locs hP hD hS => ?_)
        refine lv_iadd hx hb dX0_passTicks_42 ?_
        refine lv_istore_n (lv' := [(2, .int (y2 + x5)), (0, .ref (a 0)), (1, .int y1), (3, .int y3)]) hx hb dX0_passTicks_43 rfl hl (by decide) rfl (fun ls hl => ?_)
        refine lv_iinc (v := y3 + 1) (lv' := [(3, .int (y3 + 1)), (2, .int (y2 + x5)), (0, .ref (a 0)), (1, .int y1)]) hx hb dX0_passTicks_44 hl (k := 3) rfl rfl (by decide) rfl (fun ls hl => ?_)
        refine lv_goto (tgt := 32) hx hb dX0_passTicks_47 (by decide) ?_
        exact ih y1 (y2 + x5) (y3 + 1) V5 H locs ls hc hP hD hS (lv_sub hl [2, 3, 1, 0] rfl)
  obtain ⟨H, hHe⟩ : ∃ H : Heap, H = s.heap := ⟨_, rfl⟩
  obtain ⟨locs, hLe⟩ : ∃ x : List Loc, x = [] := ⟨_, rfl⟩
  have hP : va_P D vwCl (FW cy a V) H := by rw [hHe]; exact hP
  have hS : va_S A s.heap H locs := by rw [hHe, hLe]; exact hS
  have goal0 : W p l e (RM 4 96) s m args below meth c H locs 0 0 Q (F0 m 0 ls []) := by
    refine lv_iload_n hx hb dX0_passTicks_0 rfl (lv_at hl 1 rfl) ?_
    refine lv_iconst (v := 1) hx hb dX0_passTicks_1 (by decide) ?_
    refine lv_icmp_lt (tgt := 12) hx hb dX0_passTicks_2 (by decide) (fun c1 => ?_) (fun c1 => ?_)
    · replace hc := ite_t c1 hc
      refine lv_iconst (v := (-1)) hx hb dX0_passTicks_12 (by decide) ?_
      exact hend H locs _ _ _ _ (some_fst hc) (some_snd hc) rfl hP hD hS dX0_passTicks_13
    · replace hc := ite_f c1 hc
      refine lv_iload_n hx hb dX0_passTicks_5 rfl (lv_at hl 1 rfl) ?_
      refine lv_sipush (v := 200) hx hb dX0_passTicks_6 (by decide +kernel) ?_
      refine lv_icmp_le (tgt := 14) hx hb dX0_passTicks_9 (by decide) (fun c2 => ?_) (fun c2 => ?_)
      · replace hc := ite_t c2 hc
        refine lv_aload_n hx hb dX0_passTicks_14 rfl (lv_at hl 0 rfl) ?_
        refine va_get (ci := 0) (v := .int (V 0 3)) (C := RX0) (T := TX0) (N := 10) hx hb hts inw_X0 hown hK.1 hP 0 rfl rfl 8 (by decide) fl_43 (fun _ h9 => h9) rfl dX0_passTicks_15 ?_
        refine lv_iload_n hx hb dX0_passTicks_18 rfl (lv_at hl 1 rfl) ?_
        refine lv_iadd hx hb dX0_passTicks_19 ?_
        refine lv_ldc (v := 50000) hx hb hown (hts (.constant RX0 92 50000) (by decide +kernel)) dX0_passTicks_20 ?_
        refine lv_icmp_le (tgt := 28) hx hb dX0_passTicks_22 (by decide) (fun c3 => ?_) (fun c3 => ?_)
        · replace hc := ite_t c3 hc
          refine lv_iconst (v := 0) hx hb dX0_passTicks_28 (by decide) ?_
          refine lv_istore_n (lv' := [(2, .int 0), (0, .ref (a 0)), (1, .int p1)]) hx hb dX0_passTicks_29 rfl hl (by decide) rfl (fun ls hl => ?_)
          refine lv_iconst (v := 0) hx hb dX0_passTicks_30 (by decide) ?_
          refine lv_istore_n (lv' := [(3, .int 0), (2, .int 0), (0, .ref (a 0)), (1, .int p1)]) hx hb dX0_passTicks_31 rfl hl (by decide) rfl (fun ls hl => ?_)
          exact L32 FUEL p1 0 0 V H locs ls hc hP hD hS (lv_sub hl [2, 3, 1, 0] rfl)
        · replace hc := ite_f c3 hc
          refine lv_bipush (v := (-3)) hx hb dX0_passTicks_25 (by decide +kernel) ?_
          exact hend H locs _ _ _ _ (some_fst hc) (some_snd hc) rfl hP hD hS dX0_passTicks_27
      · replace hc := ite_f c2 hc
        refine lv_iconst (v := (-1)) hx hb dX0_passTicks_12 (by decide) ?_
        exact hend H locs _ _ _ _ (some_fst hc) (some_snd hc) rfl hP hD hS dX0_passTicks_13
  rw [hHe, hLe] at goal0
  exact goal0
