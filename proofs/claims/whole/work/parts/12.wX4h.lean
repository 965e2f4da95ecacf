set_option maxHeartbeats 4000000 in
set_option maxRecDepth 100000 in
theorem C_X4_tries (l : Launch) (D : va_G) (cy : Nat → ClassId) (a : Nat → Nat) (V : FV) (V' : FV) (hc : f_X4_tries V = some V') : ConV l yX4_tries wsX4_tries 8 183 D cy (MW cy a) [.ref (a 0)] V V' := by
  refine bodyV (cc := cX4_tries) (maxL := 1) (by decide +kernel) rfl (Nat.le_of_ble_eq_true rfl) ?_
  intro p e s m args below meth c A Q hx hb hml hts hown hK hP hD hA hS hend ls hl
  have hown : s.vm.findClass RX4 = some m.cls := hown
  have hP : va_P D vwCl (MW cy a V) s.heap := hP
  have hD : va_D A (MW cy a V) := hD
  have hl : lv_has ls 1 [(0, .ref (a 0))] := hl
  have hend : ∀ (H : Heap) (locs : List Loc) (pc : Nat) (ls : Array Slot) (V : FV), V = V' → va_P D vwCl (MW cy a V) H → va_D A (MW cy a V) → va_S A s.heap H locs → decode cX4_tries pc = .ok (.return_, 1) → W p l e (RM 8 183) s m args below meth c H locs 0 0 Q (F0 m pc ls []) := fun H locs pc ls V h1 h2 h3 h4 h5 => hend H locs pc ls V h1 h2 h3 h4 h5
  have fl_134 := hts (.fieldLink RX4 134 "NoonWellsModel" "readAt" "I") (by decide +kernel)
  have inw_X4 := (by decide +kernel : ∀ w ∈ u_ws RX4 TX4 12, w ∈ wsX4_tries)
  have fl_149 := hts (.fieldLink RX4 149 "NoonWellsModel" "orders" "I") (by decide +kernel)
  have fl_143 := hts (.fieldLink RX4 143 "NoonWellsModel" "reason" "I") (by decide +kernel)
  have fl_131 := hts (.fieldLink RX4 131 "NoonWellsModel" "letters" "I") (by decide +kernel)
  have fl_152 := hts (.fieldLink RX4 152 "NoonWellsModel" "faultAt" "I") (by decide +kernel)
  have L15 : ∀ (n : Nat), ∀ (V : FV) (H : Heap) (locs : List Loc) (ls : Array Slot), f_X4_tries_L15 n V = some V' → va_P D vwCl (MW cy a V) H → va_D A (MW cy a V) → va_S A s.heap H locs → lv_has ls 1 [(0, .ref (a 0))] → W p l e (RM 8 183) s m args below meth c H locs 0 0 Q (F0 m 15 ls []) := by
    intro n
    induction n with
    | zero =>
      intro V H locs ls hc
      cases hc
    | succ n ih =>
      intro V H locs ls hc hP hD hS hl
      refine lv_aload_n hx hb dX4_tries_15 rfl (lv_at hl 0 rfl) ?_
      refine va_get (ci := 4) (v := .int (V 0 3)) (C := RX4) (T := TX4) (N := 12) hx hb hts inw_X4 hown hK.1 hP 0 rfl rfl 7 (by decide) fl_134 (fun _ h9 => h9) rfl dX4_tries_16 ?_
      refine lv_aload_n hx hb dX4_tries_19 rfl (lv_at hl 0 rfl) ?_
      refine va_get (ci := 4) (v := .int (V 0 2)) (C := RX4) (T := TX4) (N := 12) hx hb hts inw_X4 hown hK.1 hP 0 rfl rfl 6 (by decide) fl_131 (fun _ h9 => h9) rfl dX4_tries_20 ?_
      refine lv_icmp_ge (tgt := 58) hx hb dX4_tries_23 (by decide) (fun c4 => ?_) (fun c4 => ?_)
      · replace hc := ite_t c4 hc
        exact hend H locs _ _ _ (some_one hc) hP hD hS dX4_tries_58
      · replace hc := ite_f c4 hc
        refine lv_aload_n hx hb dX4_tries_26 rfl (lv_at hl 0 rfl) ?_
        refine va_get (ci := 4) (v := .int (V 0 4)) (C := RX4) (T := TX4) (N := 12) hx hb hts inw_X4 hown hK.1 hP 0 rfl rfl 8 (by decide) fl_143 (fun _ h9 => h9) rfl dX4_tries_27 ?_
        refine lv_if_ne (tgt := 58) hx hb dX4_tries_30 (by decide) (fun c5 => ?_) (fun c5 => ?_)
        · replace hc := ite_f c5 hc
          exact hend H locs _ _ _ (some_one hc) hP hD hS dX4_tries_58
        · replace hc := ite_t c5 hc
          refine lv_aload_n hx hb dX4_tries_33 rfl (lv_at hl 0 rfl) ?_
          refine lv_aload_n hx hb dX4_tries_34 rfl (lv_at hl 0 rfl) ?_
          refine va_get (ci := 4) (v := .int (V 0 3)) (C := RX4) (T := TX4) (N := 12) hx hb hts inw_X4 hown hK.1 hP 0 rfl rfl 7 (by decide) fl_134 (fun _ h9 => h9) rfl dX4_tries_35 ?_
          obtain ⟨V6, eV6, hc⟩ := lt1_some hc
          refine g_put (ci := 4) (C := RX4) (T := TX4) (N := 12) (w' := MW cy a V6) hx hb hts inw_X4 tyX4 tyX4_ok nmX4 hown hK hP hD hS 0 rfl rfl 10 (by decide) fl_152 (fun _ h9 => h9) rfl (by decide +kernel) (Nat.le_of_ble_eq_true rfl) (by rw [← eV6]; rfl) dX4_tries_38 (fun H locs hP hD hS => ?_)
          refine lv_aload_n hx hb dX4_tries_41 rfl (lv_at hl 0 rfl) ?_
          obtain ⟨V7, hc7, hc⟩ := b1_some hc
          refine gc_VV (n := 0) (q0 := 0) (ci := 4) (w' := MW cy a V7) hx hb hml hown hts hK hP hD hS hA hl.1 ⟨Nat.le_refl _, Nat.le_refl _⟩ (C_X4_order l D cy a V6 V7 hc7) gX4_tries_X4_order rfl (by decide +kernel) rfl ⟨by decide, by decide⟩ Jn.same rfl rfl rfl (Nat.le_of_ble_eq_true rfl) dX4_tries_42 (fun H locs hP hD hS => ?_)
          refine lv_aload_n hx hb dX4_tries_45 rfl (lv_at hl 0 rfl) ?_
          refine lv_dup hx hb dX4_tries_46 rfl ?_
          refine va_get (ci := 4) (v := .int (V7 0 6)) (C := RX4) (T := TX4) (N := 12) hx hb hts inw_X4 hown hK.1 hP 0 rfl rfl 11 (by decide) fl_149 (fun _ h9 => h9) rfl dX4_tries_47 ?_
          refine lv_iconst (v := 1) hx hb dX4_tries_50 (by decide) ?_
          refine lv_iadd hx hb dX4_tries_51 ?_
          obtain ⟨V8, eV8, hc⟩ := lt1_some hc
          refine g_put (ci := 4) (C := RX4) (T := TX4) (N := 12) (w' := MW cy a V8) hx hb hts inw_X4 tyX4 tyX4_ok nmX4 hown hK hP hD hS 0 rfl rfl 11 (by decide) fl_149 (fun _ h9 => h9) rfl (by decide +kernel) (Nat.le_of_ble_eq_true rfl) (by rw [← eV8]; rfl) dX4_tries_52 (fun H locs hP hD hS => ?_)
          refine lv_goto (tgt := 15) hx hb dX4_tries_55 (by decide) ?_
          exact ih V8 H locs ls hc hP hD hS (lv_sub hl [0] rfl)
  obtain ⟨H, hHe⟩ : ∃ H : Heap, H = s.heap := ⟨_, rfl⟩
  obtain ⟨locs, hLe⟩ : ∃ x : List Loc, x = [] := ⟨_, rfl⟩
  have hP : va_P D vwCl (MW cy a V) H := by rw [hHe]; exact hP
  have hS : va_S A s.heap H locs := by rw [hHe, hLe]; exact hS
  have goal0 : W p l e (RM 8 183) s m args below meth c H locs 0 0 Q (F0 m 0 ls []) := by
    refine lv_aload_n hx hb dX4_tries_0 rfl (lv_at hl 0 rfl) ?_
    refine lv_iconst (v := 0) hx hb dX4_tries_1 (by decide) ?_
    obtain ⟨V1, eV1, hc⟩ := lt1_some hc
    refine g_put (ci := 4) (C := RX4) (T := TX4) (N := 12) (w' := MW cy a V1) hx hb hts inw_X4 tyX4 tyX4_ok nmX4 hown hK hP hD hS 0 rfl rfl 7 (by decide) fl_134 (fun _ h9 => h9) rfl (by decide +kernel) (Nat.le_of_ble_eq_true rfl) (by rw [← eV1]; rfl) dX4_tries_2 (fun H locs hP hD hS => ?_)
    refine lv_aload_n hx hb dX4_tries_5 rfl (lv_at hl 0 rfl) ?_
    refine lv_iconst (v := 0) hx hb dX4_tries_6 (by decide) ?_
    obtain ⟨V2, eV2, hc⟩ := lt1_some hc
    refine g_put (ci := 4) (C := RX4) (T := TX4) (N := 12) (w' := MW cy a V2) hx hb hts inw_X4 tyX4 tyX4_ok nmX4 hown hK hP hD hS 0 rfl rfl 11 (by decide) fl_149 (fun _ h9 => h9) rfl (by decide +kernel) (Nat.le_of_ble_eq_true rfl) (by rw [← eV2]; rfl) dX4_tries_7 (fun H locs hP hD hS => ?_)
    refine lv_aload_n hx hb dX4_tries_10 rfl (lv_at hl 0 rfl) ?_
    refine lv_iconst (v := 0) hx hb dX4_tries_11 (by decide) ?_
    obtain ⟨V3, eV3, hc⟩ := lt1_some hc
    refine g_put (ci := 4) (C := RX4) (T := TX4) (N := 12) (w' := MW cy a V3) hx hb hts inw_X4 tyX4 tyX4_ok nmX4 hown hK hP hD hS 0 rfl rfl 8 (by decide) fl_143 (fun _ h9 => h9) rfl (by decide +kernel) (Nat.le_of_ble_eq_true rfl) (by rw [← eV3]; rfl) dX4_tries_12 (fun H locs hP hD hS => ?_)
    exact L15 FUEL V3 H locs ls hc hP hD hS (lv_sub hl [0] rfl)
  rw [hHe, hLe] at goal0
  exact goal0
set_option maxHeartbeats 4000000 in
set_option maxRecDepth 100000 in
theorem C_X4_fault (l : Launch) (D : va_G) (cy : Nat → ClassId) (a : Nat → Nat) (V : FV) (p1 : Int32) (r : Int32) (V' : FV) (hc : f_X4_fault V p1 = some (r, V')) : ConI l yX4_fault wsX4_fault 9 203 D cy (MW cy a) [.ref (a 0), .int p1] V V' r := by
  refine bodyI (cc := cX4_fault) (maxL := 2) (ty := .int) (by decide +kernel) rfl (Nat.le_of_ble_eq_true rfl) ?_
  intro p e s m args below meth c A Q hx hb hml hts hown hK hP hD hA hS hend ls hl
  have hown : s.vm.findClass RX4 = some m.cls := hown
  have hP : va_P D vwCl (MW cy a V) s.heap := hP
  have hD : va_D A (MW cy a V) := hD
  have hl : lv_has ls 2 [(0, .ref (a 0)), (1, .int p1)] := hl
  have hend : ∀ (H : Heap) (locs : List Loc) (pc : Nat) (ls : Array Slot) (v : Int32) (V : FV), v = r → V = V' → narrow .int (.int v) = .int v → va_P D vwCl (MW cy a V) H → va_D A (MW cy a V) → va_S A s.heap H locs → decode cX4_fault pc = .ok (.ireturn, 1) → W p l e (RM 9 203) s m args below meth c H locs 0 0 Q (F0 m pc ls [.int v]) := fun H locs pc ls v V h1 h2 h3 h4 h5 h6 h7 => hend H locs pc ls v V h1 h2 h3 h4 h5 h6 h7
  have fl_143 := hts (.fieldLink RX4 143 "NoonWellsModel" "reason" "I") (by decide +kernel)
  have inw_X4 := (by decide +kernel : ∀ w ∈ u_ws RX4 TX4 12, w ∈ wsX4_fault)
  have fl_152 := hts (.fieldLink RX4 152 "NoonWellsModel" "faultAt" "I") (by decide +kernel)
  obtain ⟨H, hHe⟩ : ∃ H : Heap, H = s.heap := ⟨_, rfl⟩
  obtain ⟨locs, hLe⟩ : ∃ x : List Loc, x = [] := ⟨_, rfl⟩
  have hP : va_P D vwCl (MW cy a V) H := by rw [hHe]; exact hP
  have hS : va_S A s.heap H locs := by rw [hHe, hLe]; exact hS
  have goal0 : W p l e (RM 9 203) s m args below meth c H locs 0 0 Q (F0 m 0 ls []) := by
    refine lv_iload_n hx hb dX4_fault_0 rfl (lv_at hl 1 rfl) ?_
    refine lv_iconst (v := 0) hx hb dX4_fault_1 (by decide) ?_
    refine lv_iconst (v := 1) hx hb dX4_fault_2 (by decide) ?_
    obtain ⟨x1, hc1, hc⟩ := b1_some hc
    refine gc_SI (n := 3) (w' := MW cy a V) hx hb hml hown hts hK hP hD hS hA hl.1 ⟨Nat.le_refl _, Nat.le_refl _⟩ (C_X4_in l D cy p1 0 1 x1 hc1) gX4_fault_X4_in rfl (by decide +kernel) rfl ⟨by decide, by decide⟩ Jn.none rfl (Nat.le_of_ble_eq_true rfl) dX4_fault_3 (fun H locs hP hD hS => ?_)
    refine lv_if_ne (tgt := 11) hx hb dX4_fault_6 (by decide) (fun c2 => ?_) (fun c2 => ?_)
    · replace hc := ite_f c2 hc
      refine lv_aload_n hx hb dX4_fault_11 rfl (lv_at hl 0 rfl) ?_
      obtain ⟨V3, hc3, hc⟩ := b1_some hc
      refine gc_VV (n := 0) (q0 := 0) (ci := 4) (w' := MW cy a V3) hx hb hml hown hts hK hP hD hS hA hl.1 ⟨Nat.le_refl _, Nat.le_refl _⟩ (C_X4_copy l D cy a V V3 hc3) gX4_fault_X4_copy rfl (by decide +kernel) rfl ⟨by decide, by decide⟩ Jn.same rfl rfl rfl (Nat.le_of_ble_eq_true rfl) dX4_fault_12 (fun H locs hP hD hS => ?_)
      refine lv_aload_n hx hb dX4_fault_15 rfl (lv_at hl 0 rfl) ?_
      obtain ⟨V4, hc4, hc⟩ := b1_some hc
      refine gc_VV (n := 0) (q0 := 0) (ci := 4) (w' := MW cy a V4) hx hb hml hown hts hK hP hD hS hA hl.1 ⟨Nat.le_refl _, Nat.le_refl _⟩ (C_X4_tries l D cy a V3 V4 hc4) gX4_fault_X4_tries rfl (by decide +kernel) rfl ⟨by decide, by decide⟩ Jn.same rfl rfl rfl (Nat.le_of_ble_eq_true rfl) dX4_fault_16 (fun H locs hP hD hS => ?_)
      refine lv_aload_n hx hb dX4_fault_19 rfl (lv_at hl 0 rfl) ?_
      obtain ⟨V5, hc5, hc⟩ := b1_some hc
      refine gc_VV (n := 0) (q0 := 0) (ci := 4) (w' := MW cy a V5) hx hb hml hown hts hK hP hD hS hA hl.1 ⟨Nat.le_refl _, Nat.le_refl _⟩ (C_X4_back l D cy a V4 V5 hc5) gX4_fault_X4_back rfl (by decide +kernel) rfl ⟨by decide, by decide⟩ Jn.same rfl rfl rfl (Nat.le_of_ble_eq_true rfl) dX4_fault_20 (fun H locs hP hD hS => ?_)
      refine lv_aload_n hx hb dX4_fault_23 rfl (lv_at hl 0 rfl) ?_
      refine va_get (ci := 4) (v := .int (V5 0 4)) (C := RX4) (T := TX4) (N := 12) hx hb hts inw_X4 hown hK.1 hP 0 rfl rfl 8 (by decide) fl_143 (fun _ h9 => h9) rfl dX4_fault_24 ?_
      refine lv_if_ne (tgt := 35) hx hb dX4_fault_27 (by decide) (fun c6 => ?_) (fun c6 => ?_)
      · replace hc := ite_f c6 hc
        refine lv_iload_n hx hb dX4_fault_35 rfl (lv_at hl 1 rfl) ?_
        refine lv_if_ne (tgt := 46) hx hb dX4_fault_36 (by decide) (fun c7 => ?_) (fun c7 => ?_)
        · replace hc := ite_f c7 hc
          refine lv_aload_n hx hb dX4_fault_46 rfl (lv_at hl 0 rfl) ?_
          refine va_get (ci := 4) (v := .int (V5 0 4)) (C := RX4) (T := TX4) (N := 12) hx hb hts inw_X4 hown hK.1 hP 0 rfl rfl 8 (by decide) fl_143 (fun _ h9 => h9) rfl dX4_fault_47 ?_
          exact hend H locs _ _ _ _ (some_fst hc) (some_snd hc) rfl hP hD hS dX4_fault_50
        · replace hc := ite_t c7 hc
          refine lv_aload_n hx hb dX4_fault_39 rfl (lv_at hl 0 rfl) ?_
          refine va_get (ci := 4) (v := .int (V5 0 5)) (C := RX4) (T := TX4) (N := 12) hx hb hts inw_X4 hown hK.1 hP 0 rfl rfl 10 (by decide) fl_152 (fun _ h9 => h9) rfl dX4_fault_40 ?_
          refine lv_goto (tgt := 50) hx hb dX4_fault_43 (by decide) ?_
          exact hend H locs _ _ _ _ (some_fst hc) (some_snd hc) rfl hP hD hS dX4_fault_50
      · replace hc := ite_t c6 hc
        refine lv_bipush (v := (-4)) hx hb dX4_fault_30 (by decide +kernel) ?_
        refine lv_goto (tgt := 50) hx hb dX4_fault_32 (by decide) ?_
        exact hend H locs _ _ _ _ (some_fst hc) (some_snd hc) rfl hP hD hS dX4_fault_50
    · replace hc := ite_t c2 hc
      refine lv_iconst (v := (-1)) hx hb dX4_fault_9 (by decide) ?_
      exact hend H locs _ _ _ _ (some_fst hc) (some_snd hc) rfl hP hD hS dX4_fault_10
  rw [hHe, hLe] at goal0
  exact goal0
set_option maxHeartbeats 4000000 in
set_option maxRecDepth 100000 in
theorem C_X4_play (l : Launch) (D : va_G) (cy : Nat → ClassId) (a : Nat → Nat) (V : FV) (r : Int32) (V' : FV) (hc : f_X4_play V = some (r, V')) : ConI l yX4_play wsX4_play 9 203 D cy (MW cy a) [.ref (a 0)] V V' r := by
  refine bodyI (cc := cX4_play) (maxL := 1) (ty := .int) (by decide +kernel) rfl (Nat.le_of_ble_eq_true rfl) ?_
  intro p e s m args below meth c A Q hx hb hml hts hown hK hP hD hA hS hend ls hl
  have hown : s.vm.findClass RX4 = some m.cls := hown
  have hP : va_P D vwCl (MW cy a V) s.heap := hP
  have hD : va_D A (MW cy a V) := hD
  have hl : lv_has ls 1 [(0, .ref (a 0))] := hl
  have hend : ∀ (H : Heap) (locs : List Loc) (pc : Nat) (ls : Array Slot) (v : Int32) (V : FV), v = r → V = V' → narrow .int (.int v) = .int v → va_P D vwCl (MW cy a V) H → va_D A (MW cy a V) → va_S A s.heap H locs → decode cX4_play pc = .ok (.ireturn, 1) → W p l e (RM 9 203) s m args below meth c H locs 0 0 Q (F0 m pc ls [.int v]) := fun H locs pc ls v V h1 h2 h3 h4 h5 h6 h7 => hend H locs pc ls v V h1 h2 h3 h4 h5 h6 h7
  have fl_143 := hts (.fieldLink RX4 143 "NoonWellsModel" "reason" "I") (by decide +kernel)
  have inw_X4 := (by decide +kernel : ∀ w ∈ u_ws RX4 TX4 12, w ∈ wsX4_play)
  have fl_149 := hts (.fieldLink RX4 149 "NoonWellsModel" "orders" "I") (by decide +kernel)
  obtain ⟨H, hHe⟩ : ∃ H : Heap, H = s.heap := ⟨_, rfl⟩
  obtain ⟨locs, hLe⟩ : ∃ x : List Loc, x = [] := ⟨_, rfl⟩
  have hP : va_P D vwCl (MW cy a V) H := by rw [hHe]; exact hP
  have hS : va_S A s.heap H locs := by rw [hHe, hLe]; exact hS
  have goal0 : W p l e (RM 9 203) s m args below meth c H locs 0 0 Q (F0 m 0 ls []) := by
    refine lv_aload_n hx hb dX4_play_0 rfl (lv_at hl 0 rfl) ?_
    obtain ⟨V1, hc1, hc⟩ := b1_some hc
    refine gc_VV (n := 0) (q0 := 0) (ci := 4) (w' := MW cy a V1) hx hb hml hown hts hK hP hD hS hA hl.1 ⟨Nat.le_refl _, Nat.le_refl _⟩ (C_X4_copy l D cy a V V1 hc1) gX4_play_X4_copy rfl (by decide +kernel) rfl ⟨by decide, by decide⟩ Jn.same rfl rfl rfl (Nat.le_of_ble_eq_true rfl) dX4_play_1 (fun H locs hP hD hS => ?_)
    refine lv_aload_n hx hb dX4_play_4 rfl (lv_at hl 0 rfl) ?_
    obtain ⟨V2, hc2, hc⟩ := b1_some hc
    refine gc_VV (n := 0) (q0 := 0) (ci := 4) (w' := MW cy a V2) hx hb hml hown hts hK hP hD hS hA hl.1 ⟨Nat.le_refl _, Nat.le_refl _⟩ (C_X4_tries l D cy a V1 V2 hc2) gX4_play_X4_tries rfl (by decide +kernel) rfl ⟨by decide, by decide⟩ Jn.same rfl rfl rfl (Nat.le_of_ble_eq_true rfl) dX4_play_5 (fun H locs hP hD hS => ?_)
    refine lv_aload_n hx hb dX4_play_8 rfl (lv_at hl 0 rfl) ?_
    refine va_get (ci := 4) (v := .int (V2 0 4)) (C := RX4) (T := TX4) (N := 12) hx hb hts inw_X4 hown hK.1 hP 0 rfl rfl 8 (by decide) fl_143 (fun _ h9 => h9) rfl dX4_play_9 ?_
    refine lv_if_eq (tgt := 22) hx hb dX4_play_12 (by decide) (fun c3 => ?_) (fun c3 => ?_)
    · replace hc := ite_t c3 hc
      refine lv_aload_n hx hb dX4_play_22 rfl (lv_at hl 0 rfl) ?_
      refine lv_aload_n hx hb dX4_play_23 rfl (lv_at hl 0 rfl) ?_
      refine va_get (ci := 4) (v := .int (V2 0 6)) (C := RX4) (T := TX4) (N := 12) hx hb hts inw_X4 hown hK.1 hP 0 rfl rfl 11 (by decide) fl_149 (fun _ h9 => h9) rfl dX4_play_24 ?_
      obtain ⟨x4, V4, hc4, hc⟩ := b2_some hc
      refine gc_VI (n := 1) (q0 := 0) (ci := 4) (w' := MW cy a V4) hx hb hml hown hts hK hP hD hS hA hl.1 ⟨Nat.le_refl _, Nat.le_refl _⟩ (C_X4_recorded l D cy a V2 (V2 0 6) x4 V4 hc4) gX4_play_X4_recorded rfl (by decide +kernel) rfl ⟨by decide, by decide⟩ Jn.same rfl rfl rfl (Nat.le_of_ble_eq_true rfl) dX4_play_27 (fun H locs hP hD hS => ?_)
      exact hend H locs _ _ _ _ (some_fst hc) (some_snd hc) rfl hP hD hS dX4_play_30
    · replace hc := ite_f c3 hc
      refine lv_aload_n hx hb dX4_play_15 rfl (lv_at hl 0 rfl) ?_
      obtain ⟨V5, hc5, hc⟩ := b1_some hc
      refine gc_VV (n := 0) (q0 := 0) (ci := 4) (w' := MW cy a V5) hx hb hml hown hts hK hP hD hS hA hl.1 ⟨Nat.le_refl _, Nat.le_refl _⟩ (C_X4_back l D cy a V2 V5 hc5) gX4_play_X4_back rfl (by decide +kernel) rfl ⟨by decide, by decide⟩ Jn.same rfl rfl rfl (Nat.le_of_ble_eq_true rfl) dX4_play_16 (fun H locs hP hD hS => ?_)
      refine lv_bipush (v := (-2)) hx hb dX4_play_19 (by decide +kernel) ?_
      exact hend H locs _ _ _ _ (some_fst hc) (some_snd hc) rfl hP hD hS dX4_play_21
  rw [hHe, hLe] at goal0
  exact goal0
