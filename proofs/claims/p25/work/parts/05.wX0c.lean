set_option maxHeartbeats 4000000 in
set_option maxRecDepth 100000 in
theorem C_X0_pourShares (l : Launch) (D : va_G) (cy : Nat → ClassId) (a : Nat → Nat) (V : FV) (p1 : Int32) (r : Int32) (V' : FV) (hc : f_X0_pourShares V p1 = some (r, V')) : ConI l yX0_pourShares wsX0_pourShares 0 0 D cy (FW cy a) [.ref (a 0), .int p1] V V' r := by
  refine bodyI (cc := cX0_pourShares) (maxL := 5) (ty := .int) (by decide +kernel) rfl (Nat.le_of_ble_eq_true rfl) ?_
  intro p e s m args below meth c A Q hx hb hml hts hown hK hP hD hA hS hend ls hl
  have hown : s.vm.findClass RX0 = some m.cls := hown
  have hP : va_P D vwCl (FW cy a V) s.heap := hP
  have hD : va_D A (FW cy a V) := hD
  have hl : lv_has ls 5 [(0, .ref (a 0)), (1, .int p1)] := hl
  have hend : ∀ (H : Heap) (locs : List Loc) (pc : Nat) (ls : Array Slot) (v : Int32) (V : FV), v = r → V = V' → narrow .int (.int v) = .int v → va_P D vwCl (FW cy a V) H → va_D A (FW cy a V) → va_S A s.heap H locs → decode cX0_pourShares pc = .ok (.ireturn, 1) → W p l e (RM 0 0) s m args below meth c H locs 0 0 Q (F0 m pc ls [.int v]) := fun H locs pc ls v V h1 h2 h3 h4 h5 h6 h7 => hend H locs pc ls v V h1 h2 h3 h4 h5 h6 h7
  have fl_33 := hts (.fieldLink RX0 33 "NoonWells$Field" "wellCount" "I") (by decide +kernel)
  have inw_X0 := (by decide +kernel : ∀ w ∈ u_ws RX0 TX0 10, w ∈ wsX0_pourShares)
  have fl_26 := hts (.fieldLink RX0 26 "NoonWells$Field" "shares" "[I") (by decide +kernel)
  have fl_11 := hts (.fieldLink RX0 11 "NoonWells$Field" "wells" "[[I") (by decide +kernel)
  have L4 : ∀ (n : Nat), ∀ (y1 y2 y3 : Int32) (V : FV) (H : Heap) (locs : List Loc) (ls : Array Slot), f_X0_pourShares_L4 n y1 y2 y3 V = some (r, V') → va_P D vwCl (FW cy a V) H → va_D A (FW cy a V) → va_S A s.heap H locs → lv_has ls 5 [(0, .ref (a 0)), (1, .int y1), (2, .int y2), (3, .int y3)] → W p l e (RM 0 0) s m args below meth c H locs 0 0 Q (F0 m 4 ls []) := by
    intro n
    induction n with
    | zero =>
      intro y1 y2 y3 V H locs ls hc
      cases hc
    | succ n ih =>
      intro y1 y2 y3 V H locs ls hc hP hD hS hl
      refine lv_iload_n hx hb dX0_pourShares_4 rfl (lv_at hl 3 rfl) ?_
      refine lv_aload_n hx hb dX0_pourShares_5 rfl (lv_at hl 0 rfl) ?_
      refine va_get (ci := 0) (v := .int (V 0 0)) (C := RX0) (T := TX0) (N := 10) hx hb hts inw_X0 hown hK.1 hP 0 rfl rfl 5 (by decide) fl_33 (fun _ h9 => h9) rfl dX0_pourShares_6 ?_
      refine lv_icmp_ge (tgt := 80) hx hb dX0_pourShares_9 (by decide) (fun c1 => ?_) (fun c1 => ?_)
      · replace hc := ite_t c1 hc
        refine lv_iload_n hx hb dX0_pourShares_80 rfl (lv_at hl 2 rfl) ?_
        exact hend H locs _ _ _ _ (some_fst hc) (some_snd hc) rfl hP hD hS dX0_pourShares_81
      · replace hc := ite_f c1 hc
        refine lv_aload_n hx hb dX0_pourShares_12 rfl (lv_at hl 0 rfl) ?_
        refine va_get (ci := 0) (v := .ref (a 5)) (C := RX0) (T := TX0) (N := 10) hx hb hts inw_X0 hown hK.1 hP 0 rfl rfl 4 (by decide) fl_26 (fun _ h9 => h9) rfl dX0_pourShares_13 ?_
        refine lv_iload_n hx hb dX0_pourShares_16 rfl (lv_at hl 3 rfl) ?_
        obtain ⟨x2, hi2, hv2, hc⟩ := rd_some hc
        refine g_iald (x := x2) hx hb hK hP 5 rfl hi2 hv2 dX0_pourShares_17 ?_
        refine lv_istore (lv' := [(4, .int x2), (0, .ref (a 0)), (1, .int y1), (2, .int y2), (3, .int y3)]) hx hb dX0_pourShares_18 hl (by decide) rfl (fun ls hl => ?_)
        refine lv_aload_n hx hb dX0_pourShares_20 rfl (lv_at hl 1 rfl) ?_
        refine va_get (ci := 0) (v := .ref (a 1)) (C := RX0) (T := TX0) (N := 10) hx hb hts inw_X0 hown hK.1 hP 0 rfl rfl 0 (by decide) fl_11 (fun _ h9 => h9) rfl dX0_pourShares_21 ?_
        refine lv_iconst (v := 4) hx hb dX0_pourShares_24 (by decide) ?_
        refine g_aald (v := a 10) hx hb hK hP 1 rfl (vp_lit (by decide)) rfl dX0_pourShares_25 ?_
        refine lv_iload_n hx hb dX0_pourShares_26 rfl (lv_at hl 4 rfl) ?_
        refine lv_dup2_11 hx hb dX0_pourShares_27 rfl rfl ?_
        obtain ⟨x3, hi3, hv3, hc⟩ := rd_some hc
        refine g_iald (x := x3) hx hb hK hP 10 rfl hi3 hv3 dX0_pourShares_28 ?_
        refine lv_iload hx hb dX0_pourShares_29 (lv_at hl 0 rfl) ?_
        refine lv_isub hx hb dX0_pourShares_31 ?_
        obtain ⟨V4, hi4, eV4, hc⟩ := wr_some hc
        refine g_iast (w' := FW cy a V4) hx hb hK hP hD hS 10 rfl hi4 (by rw [← eV4]; rfl) dX0_pourShares_32 (fun H locs hP hD hS => ?_)
        refine lv_iload_n hx hb dX0_pourShares_33 rfl (lv_at hl 4 rfl) ?_
        refine lv_iload_n hx hb dX0_pourShares_34 rfl (lv_at hl 2 rfl) ?_
        refine lv_icmp_ne (tgt := 55) hx hb dX0_pourShares_35 (by decide) (fun c5 => ?_) (fun c5 => ?_)
        · replace hc := ite_f c5 hc
          refine lv_aload_n hx hb dX0_pourShares_55 rfl (lv_at hl 1 rfl) ?_
          refine va_get (ci := 0) (v := .ref (a 1)) (C := RX0) (T := TX0) (N := 10) hx hb hts inw_X0 hown hK.1 hP 0 rfl rfl 0 (by decide) fl_11 (fun _ h9 => h9) rfl dX0_pourShares_56 ?_
          refine lv_bipush (v := 9) hx hb dX0_pourShares_59 (by decide +kernel) ?_
          refine g_aald (v := a 15) hx hb hK hP 1 rfl (vp_lit (by decide)) rfl dX0_pourShares_61 ?_
          refine lv_iload_n hx hb dX0_pourShares_62 rfl (lv_at hl 4 rfl) ?_
          refine lv_dup2_11 hx hb dX0_pourShares_63 rfl rfl ?_
          obtain ⟨x6, hi6, hv6, hc⟩ := rd_some hc
          refine g_iald (x := x6) hx hb hK hP 15 rfl hi6 hv6 dX0_pourShares_64 ?_
          refine lv_iload hx hb dX0_pourShares_65 (lv_at hl 0 rfl) ?_
          refine lv_iadd hx hb dX0_pourShares_67 ?_
          obtain ⟨V7, hi7, eV7, hc⟩ := wr_some hc
          refine g_iast (w' := FW cy a V7) hx hb hK hP hD hS 15 rfl hi7 (by rw [← eV7]; rfl) dX0_pourShares_68 (fun H locs hP hD hS => ?_)
          refine lv_iload_n hx hb dX0_pourShares_69 rfl (lv_at hl 3 rfl) ?_
          refine lv_iload hx hb dX0_pourShares_70 (lv_at hl 0 rfl) ?_
          refine lv_iadd hx hb dX0_pourShares_72 ?_
          refine lv_istore_n (lv' := [(2, .int (y2 + x2)), (4, .int x2), (0, .ref (a 0)), (1, .int y1), (3, .int y3)]) hx hb dX0_pourShares_73 rfl hl (by decide) rfl (fun ls hl => ?_)
          refine lv_iinc (v := y3 + 1) (lv' := [(3, .int (y3 + 1)), (2, .int (y2 + x2)), (4, .int x2), (0, .ref (a 0)), (1, .int y1)]) hx hb dX0_pourShares_74 hl (k := 4) rfl rfl (by decide) rfl (fun ls hl => ?_)
          refine lv_goto (tgt := 4) hx hb dX0_pourShares_77 (by decide) ?_
          exact ih y1 (y2 + x2) (y3 + 1) V7 H locs ls hc hP hD hS (lv_sub hl [3, 4, 1, 0] rfl)
        · replace hc := ite_t c5 hc
          refine lv_aload_n hx hb dX0_pourShares_38 rfl (lv_at hl 1 rfl) ?_
          refine va_get (ci := 0) (v := .ref (a 1)) (C := RX0) (T := TX0) (N := 10) hx hb hts inw_X0 hown hK.1 hP 0 rfl rfl 0 (by decide) fl_11 (fun _ h9 => h9) rfl dX0_pourShares_39 ?_
          refine lv_bipush (v := 8) hx hb dX0_pourShares_42 (by decide +kernel) ?_
          refine g_aald (v := a 14) hx hb hK hP 1 rfl (vp_lit (by decide)) rfl dX0_pourShares_44 ?_
          refine lv_iload_n hx hb dX0_pourShares_45 rfl (lv_at hl 4 rfl) ?_
          refine lv_dup2_11 hx hb dX0_pourShares_46 rfl rfl ?_
          obtain ⟨x8, hi8, hv8, hc⟩ := rd_some hc
          refine g_iald (x := x8) hx hb hK hP 14 rfl hi8 hv8 dX0_pourShares_47 ?_
          refine lv_iload hx hb dX0_pourShares_48 (lv_at hl 0 rfl) ?_
          refine lv_iadd hx hb dX0_pourShares_50 ?_
          obtain ⟨V9, hi9, eV9, hc⟩ := wr_some hc
          refine g_iast (w' := FW cy a V9) hx hb hK hP hD hS 14 rfl hi9 (by rw [← eV9]; rfl) dX0_pourShares_51 (fun H locs hP hD hS => ?_)
          refine lv_goto (tgt := 74) hx hb dX0_pourShares_52 (by decide) ?_
          refine lv_iinc (v := y3 + 1) (lv' := [(3, .int (y3 + 1)), (4, .int x2), (0, .ref (a 0)), (1, .int y1), (2, .int y2)]) hx hb dX0_pourShares_74 hl (k := 4) rfl rfl (by decide) rfl (fun ls hl => ?_)
          refine lv_goto (tgt := 4) hx hb dX0_pourShares_77 (by decide) ?_
          exact ih y1 y2 (y3 + 1) V9 H locs ls hc hP hD hS (lv_sub hl [2, 3, 4, 0] rfl)
  obtain ⟨H, hHe⟩ : ∃ H : Heap, H = s.heap := ⟨_, rfl⟩
  obtain ⟨locs, hLe⟩ : ∃ x : List Loc, x = [] := ⟨_, rfl⟩
  have hP : va_P D vwCl (FW cy a V) H := by rw [hHe]; exact hP
  have hS : va_S A s.heap H locs := by rw [hHe, hLe]; exact hS
  have goal0 : W p l e (RM 0 0) s m args below meth c H locs 0 0 Q (F0 m 0 ls []) := by
    refine lv_iconst (v := 0) hx hb dX0_pourShares_0 (by decide) ?_
    refine lv_istore_n (lv' := [(2, .int 0), (0, .ref (a 0)), (1, .int p1)]) hx hb dX0_pourShares_1 rfl hl (by decide) rfl (fun ls hl => ?_)
    refine lv_iconst (v := 0) hx hb dX0_pourShares_2 (by decide) ?_
    refine lv_istore_n (lv' := [(3, .int 0), (2, .int 0), (0, .ref (a 0)), (1, .int p1)]) hx hb dX0_pourShares_3 rfl hl (by decide) rfl (fun ls hl => ?_)
    exact L4 FUEL p1 0 0 V H locs ls hc hP hD hS (lv_sub hl [2, 3, 1, 0] rfl)
  rw [hHe, hLe] at goal0
  exact goal0
set_option maxHeartbeats 4000000 in
set_option maxRecDepth 100000 in
theorem C_X3_areBuckets (l : Launch) (D : va_G) (cy : Nat → ClassId) (p0 : Int32) (r : Int32) (hc : f_X3_areBuckets p0 = some r) : ConI l yX3_areBuckets wsX3_areBuckets 0 0 D cy (fun (_ : Unit) => ([] : va_W)) [.int p0] (()) (()) r := by
  refine bodyI (cc := cX3_areBuckets) (maxL := 1) (ty := .boolean) (by decide +kernel) rfl (Nat.le_of_ble_eq_true rfl) ?_
  intro p e s m args below meth c A Q hx hb hml hts hown hK hP hD hA hS hend ls hl
  have hown : s.vm.findClass RX3 = some m.cls := hown
  have hP : va_P D vwCl (([] : va_W)) s.heap := hP
  have hD : va_D A (([] : va_W)) := hD
  have hl : lv_has ls 1 [(0, .int p0)] := hl
  have hend : ∀ (H : Heap) (locs : List Loc) (pc : Nat) (ls : Array Slot) (v : Int32), v = r → narrow .boolean (.int v) = .int v → va_P D vwCl (([] : va_W)) H → va_D A (([] : va_W)) → va_S A s.heap H locs → decode cX3_areBuckets pc = .ok (.ireturn, 1) → W p l e (RM 0 0) s m args below meth c H locs 0 0 Q (F0 m pc ls [.int v]) := fun H locs pc ls v h1 h3 h4 h5 h6 h7 => hend H locs pc ls v (()) h1 rfl h3 h4 h5 h6 h7
  obtain ⟨H, hHe⟩ : ∃ H : Heap, H = s.heap := ⟨_, rfl⟩
  obtain ⟨locs, hLe⟩ : ∃ x : List Loc, x = [] := ⟨_, rfl⟩
  have hP : va_P D vwCl (([] : va_W)) H := by rw [hHe]; exact hP
  have hS : va_S A s.heap H locs := by rw [hHe, hLe]; exact hS
  have goal0 : W p l e (RM 0 0) s m args below meth c H locs 0 0 Q (F0 m 0 ls []) := by
    refine lv_iload_n hx hb dX3_areBuckets_0 rfl (lv_at hl 0 rfl) ?_
    refine lv_iconst (v := 1) hx hb dX3_areBuckets_1 (by decide) ?_
    refine lv_icmp_lt (tgt := 16) hx hb dX3_areBuckets_2 (by decide) (fun c1 => ?_) (fun c1 => ?_)
    · replace hc := ite_t c1 hc
      refine lv_iconst (v := 0) hx hb dX3_areBuckets_16 (by decide) ?_
      exact hend H locs _ _ _ (some_one hc) rfl hP hD hS dX3_areBuckets_17
    · replace hc := ite_f c1 hc
      refine lv_iload_n hx hb dX3_areBuckets_5 rfl (lv_at hl 0 rfl) ?_
      refine lv_sipush (v := 999) hx hb dX3_areBuckets_6 (by decide +kernel) ?_
      refine lv_icmp_gt (tgt := 16) hx hb dX3_areBuckets_9 (by decide) (fun c2 => ?_) (fun c2 => ?_)
      · replace hc := ite_t c2 hc
        refine lv_iconst (v := 0) hx hb dX3_areBuckets_16 (by decide) ?_
        exact hend H locs _ _ _ (some_one hc) rfl hP hD hS dX3_areBuckets_17
      · replace hc := ite_f c2 hc
        refine lv_iconst (v := 1) hx hb dX3_areBuckets_12 (by decide) ?_
        refine lv_goto (tgt := 17) hx hb dX3_areBuckets_13 (by decide) ?_
        exact hend H locs _ _ _ (some_one hc) rfl hP hD hS dX3_areBuckets_17
  rw [hHe, hLe] at goal0
  exact goal0
set_option maxHeartbeats 4000000 in
set_option maxRecDepth 100000 in
theorem C_X0_takeDraw (l : Launch) (D : va_G) (cy : Nat → ClassId) (a : Nat → Nat) (V : FV) (p1 : Int32) (p2 : Int32) (r : Int32) (V' : FV) (hc : f_X0_takeDraw V p1 p2 = some (r, V')) : ConI l yX0_takeDraw wsX0_takeDraw 2 50 D cy (FW cy a) [.ref (a 0), .int p1, .int p2] V V' r := by
  refine bodyI (cc := cX0_takeDraw) (maxL := 3) (ty := .int) (by decide +kernel) rfl (Nat.le_of_ble_eq_true rfl) ?_
  intro p e s m args below meth c A Q hx hb hml hts hown hK hP hD hA hS hend ls hl
  have hown : s.vm.findClass RX0 = some m.cls := hown
  have hP : va_P D vwCl (FW cy a V) s.heap := hP
  have hD : va_D A (FW cy a V) := hD
  have hl : lv_has ls 3 [(0, .ref (a 0)), (1, .int p1), (2, .int p2)] := hl
  have hend : ∀ (H : Heap) (locs : List Loc) (pc : Nat) (ls : Array Slot) (v : Int32) (V : FV), v = r → V = V' → narrow .int (.int v) = .int v → va_P D vwCl (FW cy a V) H → va_D A (FW cy a V) → va_S A s.heap H locs → decode cX0_takeDraw pc = .ok (.ireturn, 1) → W p l e (RM 2 50) s m args below meth c H locs 0 0 Q (F0 m pc ls [.int v]) := fun H locs pc ls v V h1 h2 h3 h4 h5 h6 h7 => hend H locs pc ls v V h1 h2 h3 h4 h5 h6 h7
  have ini_X3_areBuckets := hts (.initialized yX3_areBuckets.cls) (by decide +kernel)
  have sta_X3_areBuckets := hts (.static yX3_areBuckets) (by decide +kernel)
  obtain ⟨H, hHe⟩ : ∃ H : Heap, H = s.heap := ⟨_, rfl⟩
  obtain ⟨locs, hLe⟩ : ∃ x : List Loc, x = [] := ⟨_, rfl⟩
  have hP : va_P D vwCl (FW cy a V) H := by rw [hHe]; exact hP
  have hS : va_S A s.heap H locs := by rw [hHe, hLe]; exact hS
  have goal0 : W p l e (RM 2 50) s m args below meth c H locs 0 0 Q (F0 m 0 ls []) := by
    refine lv_aload_n hx hb dX0_takeDraw_0 rfl (lv_at hl 0 rfl) ?_
    refine lv_iload_n hx hb dX0_takeDraw_1 rfl (lv_at hl 1 rfl) ?_
    obtain ⟨x1, hc1, hc⟩ := b1_some hc
    refine gc_VI (n := 1) (q0 := 0) (ci := 0) (w' := FW cy a V) hx hb hml hown hts hK hP hD hS hA hl.1 ⟨Nat.le_refl _, Nat.le_refl _⟩ (C_X0_isWell l D cy a V p1 x1 hc1) gX0_takeDraw_X0_isWell rfl (by decide +kernel) rfl ⟨by decide, by decide⟩ Jn.same rfl rfl rfl (Nat.le_of_ble_eq_true rfl) dX0_takeDraw_2 (fun H locs hP hD hS => ?_)
    refine lv_if_eq (tgt := 15) hx hb dX0_takeDraw_5 (by decide) (fun c2 => ?_) (fun c2 => ?_)
    · replace hc := ite_t c2 hc
      refine lv_iconst (v := (-1)) hx hb dX0_takeDraw_15 (by decide) ?_
      exact hend H locs _ _ _ _ (some_fst hc) (some_snd hc) rfl hP hD hS dX0_takeDraw_16
    · replace hc := ite_f c2 hc
      refine lv_iload_n hx hb dX0_takeDraw_8 rfl (lv_at hl 2 rfl) ?_
      obtain ⟨x3, hc3, hc⟩ := b1_some hc
      refine gc_SNI (n := 1) (y := yX3_areBuckets) (host := "NoonWells") (own := RX0) (index := 76) (w' := FW cy a V) hx hb hml hown hts hK hP hD hS hA hl.1 ⟨Nat.le_refl _, Nat.le_refl _⟩ (C_X3_areBuckets l D cy p2 x3 hc3) gX0_takeDraw_X3_areBuckets_n76 (by decide +kernel) ini_X3_areBuckets sta_X3_areBuckets rfl (by decide +kernel) rfl ⟨by decide, by decide⟩ Jn.none rfl (Nat.le_of_ble_eq_true rfl) dX0_takeDraw_9 (fun H locs hP hD hS => ?_)
      refine lv_if_ne (tgt := 17) hx hb dX0_takeDraw_12 (by decide) (fun c4 => ?_) (fun c4 => ?_)
      · replace hc := ite_f c4 hc
        refine lv_aload_n hx hb dX0_takeDraw_17 rfl (lv_at hl 0 rfl) ?_
        refine lv_iload_n hx hb dX0_takeDraw_18 rfl (lv_at hl 1 rfl) ?_
        refine lv_iload_n hx hb dX0_takeDraw_19 rfl (lv_at hl 2 rfl) ?_
        obtain ⟨x5, V5, hc5, hc⟩ := b2_some hc
        refine gc_VI (n := 2) (q0 := 0) (ci := 0) (w' := FW cy a V5) hx hb hml hown hts hK hP hD hS hA hl.1 ⟨Nat.le_refl _, Nat.le_refl _⟩ (C_X0_shareOut l D cy a V p1 p2 x5 V5 hc5) gX0_takeDraw_X0_shareOut rfl (by decide +kernel) rfl ⟨by decide, by decide⟩ Jn.same rfl rfl rfl (Nat.le_of_ble_eq_true rfl) dX0_takeDraw_20 (fun H locs hP hD hS => ?_)
        refine lv_iload_n hx hb dX0_takeDraw_23 rfl (lv_at hl 2 rfl) ?_
        refine lv_icmp_ne (tgt := 35) hx hb dX0_takeDraw_24 (by decide) (fun c6 => ?_) (fun c6 => ?_)
        · replace hc := ite_f c6 hc
          refine lv_bipush (v := (-2)) hx hb dX0_takeDraw_35 (by decide +kernel) ?_
          exact hend H locs _ _ _ _ (some_fst hc) (some_snd hc) rfl hP hD hS dX0_takeDraw_37
        · replace hc := ite_t c6 hc
          refine lv_aload_n hx hb dX0_takeDraw_27 rfl (lv_at hl 0 rfl) ?_
          refine lv_iload_n hx hb dX0_takeDraw_28 rfl (lv_at hl 1 rfl) ?_
          obtain ⟨x7, V7, hc7, hc⟩ := b2_some hc
          refine gc_VI (n := 1) (q0 := 0) (ci := 0) (w' := FW cy a V7) hx hb hml hown hts hK hP hD hS hA hl.1 ⟨Nat.le_refl _, Nat.le_refl _⟩ (C_X0_pourShares l D cy a V5 p1 x7 V7 hc7) gX0_takeDraw_X0_pourShares rfl (by decide +kernel) rfl ⟨by decide, by decide⟩ Jn.same rfl rfl rfl (Nat.le_of_ble_eq_true rfl) dX0_takeDraw_29 (fun H locs hP hD hS => ?_)
          refine lv_goto (tgt := 37) hx hb dX0_takeDraw_32 (by decide) ?_
          exact hend H locs _ _ _ _ (some_fst hc) (some_snd hc) rfl hP hD hS dX0_takeDraw_37
      · replace hc := ite_t c4 hc
        refine lv_iconst (v := (-1)) hx hb dX0_takeDraw_15 (by decide) ?_
        exact hend H locs _ _ _ _ (some_fst hc) (some_snd hc) rfl hP hD hS dX0_takeDraw_16
  rw [hHe, hLe] at goal0
  exact goal0
set_option maxHeartbeats 4000000 in
set_option maxRecDepth 100000 in
theorem C_X0_takeRequest (l : Launch) (D : va_G) (cy : Nat → ClassId) (a : Nat → Nat) (V : FV) (p1 : Int32) (p2 : Int32) (r : Int32) (V' : FV) (hc : f_X0_takeRequest V p1 p2 = some (r, V')) : ConI l yX0_takeRequest wsX0_takeRequest 2 50 D cy (FW cy a) [.ref (a 0), .int p1, .int p2] V V' r := by
  refine bodyI (cc := cX0_takeRequest) (maxL := 3) (ty := .int) (by decide +kernel) rfl (Nat.le_of_ble_eq_true rfl) ?_
  intro p e s m args below meth c A Q hx hb hml hts hown hK hP hD hA hS hend ls hl
  have hown : s.vm.findClass RX0 = some m.cls := hown
  have hP : va_P D vwCl (FW cy a V) s.heap := hP
  have hD : va_D A (FW cy a V) := hD
  have hl : lv_has ls 3 [(0, .ref (a 0)), (1, .int p1), (2, .int p2)] := hl
  have hend : ∀ (H : Heap) (locs : List Loc) (pc : Nat) (ls : Array Slot) (v : Int32) (V : FV), v = r → V = V' → narrow .int (.int v) = .int v → va_P D vwCl (FW cy a V) H → va_D A (FW cy a V) → va_S A s.heap H locs → decode cX0_takeRequest pc = .ok (.ireturn, 1) → W p l e (RM 2 50) s m args below meth c H locs 0 0 Q (F0 m pc ls [.int v]) := fun H locs pc ls v V h1 h2 h3 h4 h5 h6 h7 => hend H locs pc ls v V h1 h2 h3 h4 h5 h6 h7
  have ini_X3_areBuckets := hts (.initialized yX3_areBuckets.cls) (by decide +kernel)
  have sta_X3_areBuckets := hts (.static yX3_areBuckets) (by decide +kernel)
  have fl_40 := hts (.fieldLink RX0 40 "NoonWells$Field" "waiting" "I") (by decide +kernel)
  have inw_X0 := (by decide +kernel : ∀ w ∈ u_ws RX0 TX0 10, w ∈ wsX0_takeRequest)
  have fl_19 := hts (.fieldLink RX0 19 "NoonWells$Field" "requests" "[[I") (by decide +kernel)
  have fl_43 := hts (.fieldLink RX0 43 "NoonWells$Field" "time" "I") (by decide +kernel)
  obtain ⟨H, hHe⟩ : ∃ H : Heap, H = s.heap := ⟨_, rfl⟩
  obtain ⟨locs, hLe⟩ : ∃ x : List Loc, x = [] := ⟨_, rfl⟩
  have hP : va_P D vwCl (FW cy a V) H := by rw [hHe]; exact hP
  have hS : va_S A s.heap H locs := by rw [hHe, hLe]; exact hS
  have goal0 : W p l e (RM 2 50) s m args below meth c H locs 0 0 Q (F0 m 0 ls []) := by
    refine lv_aload_n hx hb dX0_takeRequest_0 rfl (lv_at hl 0 rfl) ?_
    refine lv_iload_n hx hb dX0_takeRequest_1 rfl (lv_at hl 1 rfl) ?_
    obtain ⟨x1, hc1, hc⟩ := b1_some hc
    refine gc_VI (n := 1) (q0 := 0) (ci := 0) (w' := FW cy a V) hx hb hml hown hts hK hP hD hS hA hl.1 ⟨Nat.le_refl _, Nat.le_refl _⟩ (C_X0_isWell l D cy a V p1 x1 hc1) gX0_takeRequest_X0_isWell rfl (by decide +kernel) rfl ⟨by decide, by decide⟩ Jn.same rfl rfl rfl (Nat.le_of_ble_eq_true rfl) dX0_takeRequest_2 (fun H locs hP hD hS => ?_)
    refine lv_if_eq (tgt := 15) hx hb dX0_takeRequest_5 (by decide) (fun c2 => ?_) (fun c2 => ?_)
    · replace hc := ite_t c2 hc
      refine lv_iconst (v := (-1)) hx hb dX0_takeRequest_15 (by decide) ?_
      exact hend H locs _ _ _ _ (some_fst hc) (some_snd hc) rfl hP hD hS dX0_takeRequest_16
    · replace hc := ite_f c2 hc
      refine lv_iload_n hx hb dX0_takeRequest_8 rfl (lv_at hl 2 rfl) ?_
      obtain ⟨x3, hc3, hc⟩ := b1_some hc
      refine gc_SNI (n := 1) (y := yX3_areBuckets) (host := "NoonWells") (own := RX0) (index := 76) (w' := FW cy a V) hx hb hml hown hts hK hP hD hS hA hl.1 ⟨Nat.le_refl _, Nat.le_refl _⟩ (C_X3_areBuckets l D cy p2 x3 hc3) gX0_takeRequest_X3_areBuckets_n76 (by decide +kernel) ini_X3_areBuckets sta_X3_areBuckets rfl (by decide +kernel) rfl ⟨by decide, by decide⟩ Jn.none rfl (Nat.le_of_ble_eq_true rfl) dX0_takeRequest_9 (fun H locs hP hD hS => ?_)
      refine lv_if_ne (tgt := 17) hx hb dX0_takeRequest_12 (by decide) (fun c4 => ?_) (fun c4 => ?_)
      · replace hc := ite_f c4 hc
        refine lv_aload_n hx hb dX0_takeRequest_17 rfl (lv_at hl 0 rfl) ?_
        refine va_get (ci := 0) (v := .int (V 0 2)) (C := RX0) (T := TX0) (N := 10) hx hb hts inw_X0 hown hK.1 hP 0 rfl rfl 7 (by decide) fl_40 (fun _ h9 => h9) rfl dX0_takeRequest_18 ?_
        refine lv_if_ne (tgt := 42) hx hb dX0_takeRequest_21 (by decide) (fun c5 => ?_) (fun c5 => ?_)
        · replace hc := ite_f c5 hc
          refine lv_aload_n hx hb dX0_takeRequest_42 rfl (lv_at hl 0 rfl) ?_
          refine va_get (ci := 0) (v := .int (V 0 2)) (C := RX0) (T := TX0) (N := 10) hx hb hts inw_X0 hown hK.1 hP 0 rfl rfl 7 (by decide) fl_40 (fun _ h9 => h9) rfl dX0_takeRequest_43 ?_
          refine lv_bipush (v := 8) hx hb dX0_takeRequest_46 (by decide +kernel) ?_
          refine lv_icmp_lt (tgt := 54) hx hb dX0_takeRequest_48 (by decide) (fun c6 => ?_) (fun c6 => ?_)
          · replace hc := ite_t c6 hc
            refine lv_aload_n hx hb dX0_takeRequest_54 rfl (lv_at hl 0 rfl) ?_
            refine va_get (ci := 0) (v := .ref (a 3)) (C := RX0) (T := TX0) (N := 10) hx hb hts inw_X0 hown hK.1 hP 0 rfl rfl 2 (by decide) fl_19 (fun _ h9 => h9) rfl dX0_takeRequest_55 ?_
            refine lv_iconst (v := 0) hx hb dX0_takeRequest_58 (by decide) ?_
            refine g_aald (v := a 22) hx hb hK hP 3 rfl (vp_lit (by decide)) rfl dX0_takeRequest_59 ?_
            refine lv_aload_n hx hb dX0_takeRequest_60 rfl (lv_at hl 0 rfl) ?_
            refine va_get (ci := 0) (v := .int (V 0 2)) (C := RX0) (T := TX0) (N := 10) hx hb hts inw_X0 hown hK.1 hP 0 rfl rfl 7 (by decide) fl_40 (fun _ h9 => h9) rfl dX0_takeRequest_61 ?_
            refine lv_iload_n hx hb dX0_takeRequest_64 rfl (lv_at hl 1 rfl) ?_
            obtain ⟨V7, hi7, eV7, hc⟩ := wr_some hc
            refine g_iast (w' := FW cy a V7) hx hb hK hP hD hS 22 rfl hi7 (by rw [← eV7]; rfl) dX0_takeRequest_65 (fun H locs hP hD hS => ?_)
            refine lv_aload_n hx hb dX0_takeRequest_66 rfl (lv_at hl 0 rfl) ?_
            refine va_get (ci := 0) (v := .ref (a 3)) (C := RX0) (T := TX0) (N := 10) hx hb hts inw_X0 hown hK.1 hP 0 rfl rfl 2 (by decide) fl_19 (fun _ h9 => h9) rfl dX0_takeRequest_67 ?_
            refine lv_iconst (v := 1) hx hb dX0_takeRequest_70 (by decide) ?_
            refine g_aald (v := a 23) hx hb hK hP 3 rfl (vp_lit (by decide)) rfl dX0_takeRequest_71 ?_
            refine lv_aload_n hx hb dX0_takeRequest_72 rfl (lv_at hl 0 rfl) ?_
            refine va_get (ci := 0) (v := .int (V7 0 2)) (C := RX0) (T := TX0) (N := 10) hx hb hts inw_X0 hown hK.1 hP 0 rfl rfl 7 (by decide) fl_40 (fun _ h9 => h9) rfl dX0_takeRequest_73 ?_
            refine lv_iload_n hx hb dX0_takeRequest_76 rfl (lv_at hl 2 rfl) ?_
            obtain ⟨V8, hi8, eV8, hc⟩ := wr_some hc
            refine g_iast (w' := FW cy a V8) hx hb hK hP hD hS 23 rfl hi8 (by rw [← eV8]; rfl) dX0_takeRequest_77 (fun H locs hP hD hS => ?_)
            refine lv_aload_n hx hb dX0_takeRequest_78 rfl (lv_at hl 0 rfl) ?_
            refine va_get (ci := 0) (v := .ref (a 3)) (C := RX0) (T := TX0) (N := 10) hx hb hts inw_X0 hown hK.1 hP 0 rfl rfl 2 (by decide) fl_19 (fun _ h9 => h9) rfl dX0_takeRequest_79 ?_
            refine lv_iconst (v := 2) hx hb dX0_takeRequest_82 (by decide) ?_
            refine g_aald (v := a 24) hx hb hK hP 3 rfl (vp_lit (by decide)) rfl dX0_takeRequest_83 ?_
            refine lv_aload_n hx hb dX0_takeRequest_84 rfl (lv_at hl 0 rfl) ?_
            refine va_get (ci := 0) (v := .int (V8 0 2)) (C := RX0) (T := TX0) (N := 10) hx hb hts inw_X0 hown hK.1 hP 0 rfl rfl 7 (by decide) fl_40 (fun _ h9 => h9) rfl dX0_takeRequest_85 ?_
            refine lv_aload_n hx hb dX0_takeRequest_88 rfl (lv_at hl 0 rfl) ?_
            refine va_get (ci := 0) (v := .int (V8 0 3)) (C := RX0) (T := TX0) (N := 10) hx hb hts inw_X0 hown hK.1 hP 0 rfl rfl 8 (by decide) fl_43 (fun _ h9 => h9) rfl dX0_takeRequest_89 ?_
            obtain ⟨V9, hi9, eV9, hc⟩ := wr_some hc
            refine g_iast (w' := FW cy a V9) hx hb hK hP hD hS 24 rfl hi9 (by rw [← eV9]; rfl) dX0_takeRequest_92 (fun H locs hP hD hS => ?_)
            refine lv_aload_n hx hb dX0_takeRequest_93 rfl (lv_at hl 0 rfl) ?_
            refine lv_dup hx hb dX0_takeRequest_94 rfl ?_
            refine va_get (ci := 0) (v := .int (V9 0 2)) (C := RX0) (T := TX0) (N := 10) hx hb hts inw_X0 hown hK.1 hP 0 rfl rfl 7 (by decide) fl_40 (fun _ h9 => h9) rfl dX0_takeRequest_95 ?_
            refine lv_iconst (v := 1) hx hb dX0_takeRequest_98 (by decide) ?_
            refine lv_iadd hx hb dX0_takeRequest_99 ?_
            obtain ⟨V10, eV10, hc⟩ := lt1_some hc
            refine g_put (ci := 0) (C := RX0) (T := TX0) (N := 10) (w' := FW cy a V10) hx hb hts inw_X0 tyX0 tyX0_ok nmX0 hown hK hP hD hS 0 rfl rfl 7 (by decide) fl_40 (fun _ h9 => h9) rfl (by decide +kernel) (Nat.le_of_ble_eq_true rfl) (by rw [← eV10]; rfl) dX0_takeRequest_100 (fun H locs hP hD hS => ?_)
            refine lv_aload_n hx hb dX0_takeRequest_103 rfl (lv_at hl 0 rfl) ?_
            refine va_get (ci := 0) (v := .int (V10 0 2)) (C := RX0) (T := TX0) (N := 10) hx hb hts inw_X0 hown hK.1 hP 0 rfl rfl 7 (by decide) fl_40 (fun _ h9 => h9) rfl dX0_takeRequest_104 ?_
            exact hend H locs _ _ _ _ (some_fst hc) (some_snd hc) rfl hP hD hS dX0_takeRequest_107
          · replace hc := ite_f c6 hc
            refine lv_bipush (v := (-3)) hx hb dX0_takeRequest_51 (by decide +kernel) ?_
            exact hend H locs _ _ _ _ (some_fst hc) (some_snd hc) rfl hP hD hS dX0_takeRequest_53
        · replace hc := ite_t c5 hc
          refine lv_aload_n hx hb dX0_takeRequest_24 rfl (lv_at hl 0 rfl) ?_
          refine lv_iload_n hx hb dX0_takeRequest_25 rfl (lv_at hl 1 rfl) ?_
          refine lv_iload_n hx hb dX0_takeRequest_26 rfl (lv_at hl 2 rfl) ?_
          obtain ⟨x11, V11, hc11, hc⟩ := b2_some hc
          refine gc_VI (n := 2) (q0 := 0) (ci := 0) (w' := FW cy a V11) hx hb hml hown hts hK hP hD hS hA hl.1 ⟨Nat.le_refl _, Nat.le_refl _⟩ (C_X0_shareOut l D cy a V p1 p2 x11 V11 hc11) gX0_takeRequest_X0_shareOut rfl (by decide +kernel) rfl ⟨by decide, by decide⟩ Jn.same rfl rfl rfl (Nat.le_of_ble_eq_true rfl) dX0_takeRequest_27 (fun H locs hP hD hS => ?_)
          refine lv_iload_n hx hb dX0_takeRequest_30 rfl (lv_at hl 2 rfl) ?_
          refine lv_icmp_ne (tgt := 42) hx hb dX0_takeRequest_31 (by decide) (fun c12 => ?_) (fun c12 => ?_)
          · replace hc := ite_f c12 hc
            refine lv_aload_n hx hb dX0_takeRequest_42 rfl (lv_at hl 0 rfl) ?_
            refine va_get (ci := 0) (v := .int (V11 0 2)) (C := RX0) (T := TX0) (N := 10) hx hb hts inw_X0 hown hK.1 hP 0 rfl rfl 7 (by decide) fl_40 (fun _ h9 => h9) rfl dX0_takeRequest_43 ?_
            refine lv_bipush (v := 8) hx hb dX0_takeRequest_46 (by decide +kernel) ?_
            refine lv_icmp_lt (tgt := 54) hx hb dX0_takeRequest_48 (by decide) (fun c13 => ?_) (fun c13 => ?_)
            · replace hc := ite_t c13 hc
              refine lv_aload_n hx hb dX0_takeRequest_54 rfl (lv_at hl 0 rfl) ?_
              refine va_get (ci := 0) (v := .ref (a 3)) (C := RX0) (T := TX0) (N := 10) hx hb hts inw_X0 hown hK.1 hP 0 rfl rfl 2 (by decide) fl_19 (fun _ h9 => h9) rfl dX0_takeRequest_55 ?_
              refine lv_iconst (v := 0) hx hb dX0_takeRequest_58 (by decide) ?_
              refine g_aald (v := a 22) hx hb hK hP 3 rfl (vp_lit (by decide)) rfl dX0_takeRequest_59 ?_
              refine lv_aload_n hx hb dX0_takeRequest_60 rfl (lv_at hl 0 rfl) ?_
              refine va_get (ci := 0) (v := .int (V11 0 2)) (C := RX0) (T := TX0) (N := 10) hx hb hts inw_X0 hown hK.1 hP 0 rfl rfl 7 (by decide) fl_40 (fun _ h9 => h9) rfl dX0_takeRequest_61 ?_
              refine lv_iload_n hx hb dX0_takeRequest_64 rfl (lv_at hl 1 rfl) ?_
              obtain ⟨V14, hi14, eV14, hc⟩ := wr_some hc
              refine g_iast (w' := FW cy a V14) hx hb hK hP hD hS 22 rfl hi14 (by rw [← eV14]; rfl) dX0_takeRequest_65 (fun H locs hP hD hS => ?_)
              refine lv_aload_n hx hb dX0_takeRequest_66 rfl (lv_at hl 0 rfl) ?_
              refine va_get (ci := 0) (v := .ref (a 3)) (C := RX0) (T := TX0) (N := 10) hx hb hts inw_X0 hown hK.1 hP 0 rfl rfl 2 (by decide) fl_19 (fun _ h9 => h9) rfl dX0_takeRequest_67 ?_
              refine lv_iconst (v := 1) hx hb dX0_takeRequest_70 (by decide) ?_
              refine g_aald (v := a 23) hx hb hK hP 3 rfl (vp_lit (by decide)) rfl dX0_takeRequest_71 ?_
              refine lv_aload_n hx hb dX0_takeRequest_72 rfl (lv_at hl 0 rfl) ?_
              refine va_get (ci := 0) (v := .int (V14 0 2)) (C := RX0) (T := TX0) (N := 10) hx hb hts inw_X0 hown hK.1 hP 0 rfl rfl 7 (by decide) fl_40 (fun _ h9 => h9) rfl dX0_takeRequest_73 ?_
              refine lv_iload_n hx hb dX0_takeRequest_76 rfl (lv_at hl 2 rfl) ?_
              obtain ⟨V15, hi15, eV15, hc⟩ := wr_some hc
              refine g_iast (w' := FW cy a V15) hx hb hK hP hD hS 23 rfl hi15 (by rw [← eV15]; rfl) dX0_takeRequest_77 (fun H locs hP hD hS => ?_)
              refine lv_aload_n hx hb dX0_takeRequest_78 rfl (lv_at hl 0 rfl) ?_
              refine va_get (ci := 0) (v := .ref (a 3)) (C := RX0) (T := TX0) (N := 10) hx hb hts inw_X0 hown hK.1 hP 0 rfl rfl 2 (by decide) fl_19 (fun _ h9 => h9) rfl dX0_takeRequest_79 ?_
              refine lv_iconst (v := 2) hx hb dX0_takeRequest_82 (by decide) ?_
              refine g_aald (v := a 24) hx hb hK hP 3 rfl (vp_lit (by decide)) rfl dX0_takeRequest_83 ?_
              refine lv_aload_n hx hb dX0_takeRequest_84 rfl (lv_at hl 0 rfl) ?_
              refine va_get (ci := 0) (v := .int (V15 0 2)) (C := RX0) (T := TX0) (N := 10) hx hb hts inw_X0 hown hK.1 hP 0 rfl rfl 7 (by decide) fl_40 (fun _ h9 => h9) rfl dX0_takeRequest_85 ?_
              refine lv_aload_n hx hb dX0_takeRequest_88 rfl (lv_at hl 0 rfl) ?_
              refine va_get (ci := 0) (v := .int (V15 0 3)) (C := RX0) (T := TX0) (N := 10) hx hb hts inw_X0 hown hK.1 hP 0 rfl rfl 8 (by decide) fl_43 (fun _ h9 => h9) rfl dX0_takeRequest_89 ?_
              obtain ⟨V16, hi16, eV16, hc⟩ := wr_some hc
              refine g_iast (w' := FW cy a V16) hx hb hK hP hD hS 24 rfl hi16 (by rw [← eV16]; rfl) dX0_takeRequest_92 (fun H locs hP hD hS => ?_)
              refine lv_aload_n hx hb dX0_takeRequest_93 rfl (lv_at hl 0 rfl) ?_
              refine lv_dup hx hb dX0_takeRequest_94 rfl ?_
              refine va_get (ci := 0) (v := .int (V16 0 2)) (C := RX0) (T := TX0) (N := 10) hx hb hts inw_X0 hown hK.1 hP 0 rfl rfl 7 (by decide) fl_40 (fun _ h9 => h9) rfl dX0_takeRequest_95 ?_
              refine lv_iconst (v := 1) hx hb dX0_takeRequest_98 (by decide) ?_
              refine lv_iadd hx hb dX0_takeRequest_99 ?_
              obtain ⟨V17, eV17, hc⟩ := lt1_some hc
              refine g_put (ci := 0) (C := RX0) (T := TX0) (N := 10) (w' := FW cy a V17) hx hb hts inw_X0 tyX0 tyX0_ok nmX0 hown hK hP hD hS 0 rfl rfl 7 (by decide) fl_40 (fun _ h9 => h9) rfl (by decide +kernel) (Nat.le_of_ble_eq_true rfl) (by rw [← eV17]; rfl) dX0_takeRequest_100 (fun H locs hP hD hS => ?_)
              refine lv_aload_n hx hb dX0_takeRequest_103 rfl (lv_at hl 0 rfl) ?_
              refine va_get (ci := 0) (v := .int (V17 0 2)) (C := RX0) (T := TX0) (N := 10) hx hb hts inw_X0 hown hK.1 hP 0 rfl rfl 7 (by decide) fl_40 (fun _ h9 => h9) rfl dX0_takeRequest_104 ?_
              exact hend H locs _ _ _ _ (some_fst hc) (some_snd hc) rfl hP hD hS dX0_takeRequest_107
            · replace hc := ite_f c13 hc
              refine lv_bipush (v := (-3)) hx hb dX0_takeRequest_51 (by decide +kernel) ?_
              exact hend H locs _ _ _ _ (some_fst hc) (some_snd hc) rfl hP hD hS dX0_takeRequest_53
          · replace hc := ite_t c12 hc
            refine lv_aload_n hx hb dX0_takeRequest_34 rfl (lv_at hl 0 rfl) ?_
            refine lv_iload_n hx hb dX0_takeRequest_35 rfl (lv_at hl 1 rfl) ?_
            obtain ⟨x18, V18, hc18, hc⟩ := b2_some hc
            refine gc_VI (n := 1) (q0 := 0) (ci := 0) (w' := FW cy a V18) hx hb hml hown hts hK hP hD hS hA hl.1 ⟨Nat.le_refl _, Nat.le_refl _⟩ (C_X0_pourShares l D cy a V11 p1 x18 V18 hc18) gX0_takeRequest_X0_pourShares rfl (by decide +kernel) rfl ⟨by decide, by decide⟩ Jn.same rfl rfl rfl (Nat.le_of_ble_eq_true rfl) dX0_takeRequest_36 (fun H locs hP hD hS => ?_)
            refine lv_pop hx hb dX0_takeRequest_39 rfl ?_
            refine lv_iconst (v := 0) hx hb dX0_takeRequest_40 (by decide) ?_
            exact hend H locs _ _ _ _ (some_fst hc) (some_snd hc) rfl hP hD hS dX0_takeRequest_41
      · replace hc := ite_t c4 hc
        refine lv_iconst (v := (-1)) hx hb dX0_takeRequest_15 (by decide) ?_
        exact hend H locs _ _ _ _ (some_fst hc) (some_snd hc) rfl hP hD hS dX0_takeRequest_16
  rw [hHe, hLe] at goal0
  exact goal0
set_option maxHeartbeats 4000000 in
set_option maxRecDepth 100000 in
theorem C_X0_moveRequest (l : Launch) (D : va_G) (cy : Nat → ClassId) (a : Nat → Nat) (V : FV) (p1 : Int32) (p2 : Int32) (V' : FV) (hc : f_X0_moveRequest V p1 p2 = some V') : ConV l yX0_moveRequest wsX0_moveRequest 0 0 D cy (FW cy a) [.ref (a 0), .int p1, .int p2] V V' := by
  refine bodyV (cc := cX0_moveRequest) (maxL := 4) (by decide +kernel) rfl (Nat.le_of_ble_eq_true rfl) ?_
  intro p e s m args below meth c A Q hx hb hml hts hown hK hP hD hA hS hend ls hl
  have hown : s.vm.findClass RX0 = some m.cls := hown
  have hP : va_P D vwCl (FW cy a V) s.heap := hP
  have hD : va_D A (FW cy a V) := hD
  have hl : lv_has ls 4 [(0, .ref (a 0)), (1, .int p1), (2, .int p2)] := hl
  have hend : ∀ (H : Heap) (locs : List Loc) (pc : Nat) (ls : Array Slot) (V : FV), V = V' → va_P D vwCl (FW cy a V) H → va_D A (FW cy a V) → va_S A s.heap H locs → decode cX0_moveRequest pc = .ok (.return_, 1) → W p l e (RM 0 0) s m args below meth c H locs 0 0 Q (F0 m pc ls []) := fun H locs pc ls V h1 h2 h3 h4 h5 => hend H locs pc ls V h1 h2 h3 h4 h5
  have fl_19 := hts (.fieldLink RX0 19 "NoonWells$Field" "requests" "[[I") (by decide +kernel)
  have inw_X0 := (by decide +kernel : ∀ w ∈ u_ws RX0 TX0 10, w ∈ wsX0_moveRequest)
  have L2 : ∀ (n : Nat), ∀ (y1 y2 y3 : Int32) (V : FV) (H : Heap) (locs : List Loc) (ls : Array Slot), f_X0_moveRequest_L2 n y1 y2 y3 V = some V' → va_P D vwCl (FW cy a V) H → va_D A (FW cy a V) → va_S A s.heap H locs → lv_has ls 4 [(0, .ref (a 0)), (1, .int y1), (2, .int y2), (3, .int y3)] → W p l e (RM 0 0) s m args below meth c H locs 0 0 Q (F0 m 2 ls []) := by
    intro n
    induction n with
    | zero =>
      intro y1 y2 y3 V H locs ls hc
      cases hc
    | succ n ih =>
      intro y1 y2 y3 V H locs ls hc hP hD hS hl
      refine lv_iload_n hx hb dX0_moveRequest_2 rfl (lv_at hl 3 rfl) ?_
      refine lv_iconst (v := 3) hx hb dX0_moveRequest_3 (by decide) ?_
      refine lv_icmp_ge (tgt := 29) hx hb dX0_moveRequest_4 (by decide) (fun c1 => ?_) (fun c1 => ?_)
      · replace hc := ite_t c1 hc
        exact hend H locs _ _ _ (some_one hc) hP hD hS dX0_moveRequest_29
      · replace hc := ite_f c1 hc
        refine lv_aload_n hx hb dX0_moveRequest_7 rfl (lv_at hl 0 rfl) ?_
        refine va_get (ci := 0) (v := .ref (a 3)) (C := RX0) (T := TX0) (N := 10) hx hb hts inw_X0 hown hK.1 hP 0 rfl rfl 2 (by decide) fl_19 (fun _ h9 => h9) rfl dX0_moveRequest_8 ?_
        refine lv_iload_n hx hb dX0_moveRequest_11 rfl (lv_at hl 3 rfl) ?_
        obtain ⟨j2, hi2, hj2, hn2, hc⟩ := ix_some hc
        refine g_aald (v := a (22 + j2)) hx hb hK hP 3 rfl hi2 (by rw [hj2]; exact if_pos hn2) dX0_moveRequest_12 ?_
        refine lv_iload_n hx hb dX0_moveRequest_13 rfl (lv_at hl 2 rfl) ?_
        refine lv_aload_n hx hb dX0_moveRequest_14 rfl (lv_at hl 0 rfl) ?_
        refine va_get (ci := 0) (v := .ref (a 3)) (C := RX0) (T := TX0) (N := 10) hx hb hts inw_X0 hown hK.1 hP 0 rfl rfl 2 (by decide) fl_19 (fun _ h9 => h9) rfl dX0_moveRequest_15 ?_
        refine lv_iload_n hx hb dX0_moveRequest_18 rfl (lv_at hl 3 rfl) ?_
        obtain ⟨j3, hi3, hj3, hn3, hc⟩ := ix_some hc
        refine g_aald (v := a (22 + j3)) hx hb hK hP 3 rfl hi3 (by rw [hj3]; exact if_pos hn3) dX0_moveRequest_19 ?_
        refine lv_iload_n hx hb dX0_moveRequest_20 rfl (lv_at hl 1 rfl) ?_
        obtain ⟨x4, hi4, hv4, hc⟩ := rd_some hc
        refine g_iald (x := x4) hx hb hK hP (22 + j3) (FW_req hn3) hi4 hv4 dX0_moveRequest_21 ?_
        obtain ⟨V5, hi5, eV5, hc⟩ := wr_some hc
        refine g_iast (w' := FW cy a V5) hx hb hK hP hD hS (22 + j2) (FW_req hn2) hi5 (by rw [← eV5]; exact FW_reqS hn2) dX0_moveRequest_22 (fun H locs hP hD hS => ?_)
        refine lv_iinc (v := y3 + 1) (lv' := [(3, .int (y3 + 1)), (0, .ref (a 0)), (1, .int y1), (2, .int y2)]) hx hb dX0_moveRequest_23 hl (k := 3) rfl rfl (by decide) rfl (fun ls hl => ?_)
        refine lv_goto (tgt := 2) hx hb dX0_moveRequest_26 (by decide) ?_
        exact ih y1 y2 (y3 + 1) V5 H locs ls hc hP hD hS (lv_sub hl [1, 2, 3, 0] rfl)
  obtain ⟨H, hHe⟩ : ∃ H : Heap, H = s.heap := ⟨_, rfl⟩
  obtain ⟨locs, hLe⟩ : ∃ x : List Loc, x = [] := ⟨_, rfl⟩
  have hP : va_P D vwCl (FW cy a V) H := by rw [hHe]; exact hP
  have hS : va_S A s.heap H locs := by rw [hHe, hLe]; exact hS
  have goal0 : W p l e (RM 0 0) s m args below meth c H locs 0 0 Q (F0 m 0 ls []) := by
    refine lv_iconst (v := 0) hx hb dX0_moveRequest_0 (by decide) ?_
    refine lv_istore_n (lv' := [(3, .int 0), (0, .ref (a 0)), (1, .int p1), (2, .int p2)]) hx hb dX0_moveRequest_1 rfl hl (by decide) rfl (fun ls hl => ?_)
    exact L2 FUEL p1 p2 0 V H locs ls hc hP hD hS (lv_sub hl [1, 2, 3, 0] rfl)
  rw [hHe, hLe] at goal0
  exact goal0
set_option maxHeartbeats 4000000 in
set_option maxRecDepth 100000 in
theorem C_X0_dropRequest (l : Launch) (D : va_G) (cy : Nat → ClassId) (a : Nat → Nat) (V : FV) (p1 : Int32) (r : Int32) (V' : FV) (hc : f_X0_dropRequest V p1 = some (r, V')) : ConI l yX0_dropRequest wsX0_dropRequest 1 23 D cy (FW cy a) [.ref (a 0), .int p1] V V' r := by
  refine bodyI (cc := cX0_dropRequest) (maxL := 4) (ty := .int) (by decide +kernel) rfl (Nat.le_of_ble_eq_true rfl) ?_
  intro p e s m args below meth c A Q hx hb hml hts hown hK hP hD hA hS hend ls hl
  have hown : s.vm.findClass RX0 = some m.cls := hown
  have hP : va_P D vwCl (FW cy a V) s.heap := hP
  have hD : va_D A (FW cy a V) := hD
  have hl : lv_has ls 4 [(0, .ref (a 0)), (1, .int p1)] := hl
  have hend : ∀ (H : Heap) (locs : List Loc) (pc : Nat) (ls : Array Slot) (v : Int32) (V : FV), v = r → V = V' → narrow .int (.int v) = .int v → va_P D vwCl (FW cy a V) H → va_D A (FW cy a V) → va_S A s.heap H locs → decode cX0_dropRequest pc = .ok (.ireturn, 1) → W p l e (RM 1 23) s m args below meth c H locs 0 0 Q (F0 m pc ls [.int v]) := fun H locs pc ls v V h1 h2 h3 h4 h5 h6 h7 => hend H locs pc ls v V h1 h2 h3 h4 h5 h6 h7
  have fl_19 := hts (.fieldLink RX0 19 "NoonWells$Field" "requests" "[[I") (by decide +kernel)
  have inw_X0 := (by decide +kernel : ∀ w ∈ u_ws RX0 TX0 10, w ∈ wsX0_dropRequest)
  have fl_40 := hts (.fieldLink RX0 40 "NoonWells$Field" "waiting" "I") (by decide +kernel)
  have L23 : ∀ (n : Nat), ∀ (y1 y2 y3 : Int32) (V : FV) (H : Heap) (locs : List Loc) (ls : Array Slot), f_X0_dropRequest_L23 n y1 y2 y3 V = some (r, V') → va_P D vwCl (FW cy a V) H → va_D A (FW cy a V) → va_S A s.heap H locs → lv_has ls 4 [(0, .ref (a 0)), (1, .int y1), (2, .int y2), (3, .int y3)] → W p l e (RM 1 23) s m args below meth c H locs 0 0 Q (F0 m 23 ls []) := by
    intro n
    induction n with
    | zero =>
      intro y1 y2 y3 V H locs ls hc
      cases hc
    | succ n ih =>
      intro y1 y2 y3 V H locs ls hc hP hD hS hl
      refine lv_iload_n hx hb dX0_dropRequest_23 rfl (lv_at hl 3 rfl) ?_
      refine lv_aload_n hx hb dX0_dropRequest_24 rfl (lv_at hl 0 rfl) ?_
      refine va_get (ci := 0) (v := .int (V 0 2)) (C := RX0) (T := TX0) (N := 10) hx hb hts inw_X0 hown hK.1 hP 0 rfl rfl 7 (by decide) fl_40 (fun _ h9 => h9) rfl dX0_dropRequest_25 ?_
      refine lv_icmp_ge (tgt := 45) hx hb dX0_dropRequest_28 (by decide) (fun c4 => ?_) (fun c4 => ?_)
      · replace hc := ite_t c4 hc
        refine lv_aload_n hx hb dX0_dropRequest_45 rfl (lv_at hl 0 rfl) ?_
        refine lv_dup hx hb dX0_dropRequest_46 rfl ?_
        refine va_get (ci := 0) (v := .int (V 0 2)) (C := RX0) (T := TX0) (N := 10) hx hb hts inw_X0 hown hK.1 hP 0 rfl rfl 7 (by decide) fl_40 (fun _ h9 => h9) rfl dX0_dropRequest_47 ?_
        refine lv_iconst (v := 1) hx hb dX0_dropRequest_50 (by decide) ?_
        refine lv_isub hx hb dX0_dropRequest_51 ?_
        obtain ⟨V5, eV5, hc⟩ := lt1_some hc
        refine g_put (ci := 0) (C := RX0) (T := TX0) (N := 10) (w' := FW cy a V5) hx hb hts inw_X0 tyX0 tyX0_ok nmX0 hown hK hP hD hS 0 rfl rfl 7 (by decide) fl_40 (fun _ h9 => h9) rfl (by decide +kernel) (Nat.le_of_ble_eq_true rfl) (by rw [← eV5]; rfl) dX0_dropRequest_52 (fun H locs hP hD hS => ?_)
        refine lv_iload_n hx hb dX0_dropRequest_55 rfl (lv_at hl 2 rfl) ?_
        exact hend H locs _ _ _ _ (some_fst hc) (some_snd hc) rfl hP hD hS dX0_dropRequest_56
      · replace hc := ite_f c4 hc
        refine lv_aload_n hx hb dX0_dropRequest_31 rfl (lv_at hl 0 rfl) ?_
        refine lv_iload_n hx hb dX0_dropRequest_32 rfl (lv_at hl 3 rfl) ?_
        refine lv_iload_n hx hb dX0_dropRequest_33 rfl (lv_at hl 3 rfl) ?_
        refine lv_iconst (v := 1) hx hb dX0_dropRequest_34 (by decide) ?_
        refine lv_isub hx hb dX0_dropRequest_35 ?_
        obtain ⟨V6, hc6, hc⟩ := b1_some hc
        refine gc_VV (n := 2) (q0 := 0) (ci := 0) (w' := FW cy a V6) hx hb hml hown hts hK hP hD hS hA hl.1 ⟨Nat.le_refl _, Nat.le_refl _⟩ (C_X0_moveRequest l D cy a V y3 (y3 - 1) V6 hc6) gX0_dropRequest_X0_moveRequest rfl (by decide +kernel) rfl ⟨by decide, by decide⟩ Jn.same rfl rfl rfl (Nat.le_of_ble_eq_true rfl) dX0_dropRequest_36 (fun H locs hP hD hS => ?_)
        refine lv_iinc (v := y3 + 1) (lv' := [(3, .int (y3 + 1)), (0, .ref (a 0)), (1, .int y1), (2, .int y2)]) hx hb dX0_dropRequest_39 hl (k := 3) rfl rfl (by decide) rfl (fun ls hl => ?_)
        refine lv_goto (tgt := 23) hx hb dX0_dropRequest_42 (by decide) ?_
        exact ih y1 y2 (y3 + 1) V6 H locs ls hc hP hD hS (lv_sub hl [1, 2, 3, 0] rfl)
  obtain ⟨H, hHe⟩ : ∃ H : Heap, H = s.heap := ⟨_, rfl⟩
  obtain ⟨locs, hLe⟩ : ∃ x : List Loc, x = [] := ⟨_, rfl⟩
  have hP : va_P D vwCl (FW cy a V) H := by rw [hHe]; exact hP
  have hS : va_S A s.heap H locs := by rw [hHe, hLe]; exact hS
  have goal0 : W p l e (RM 1 23) s m args below meth c H locs 0 0 Q (F0 m 0 ls []) := by
    refine lv_aload_n hx hb dX0_dropRequest_0 rfl (lv_at hl 0 rfl) ?_
    refine lv_iload_n hx hb dX0_dropRequest_1 rfl (lv_at hl 1 rfl) ?_
    obtain ⟨x1, hc1, hc⟩ := b1_some hc
    refine gc_VI (n := 1) (q0 := 0) (ci := 0) (w' := FW cy a V) hx hb hml hown hts hK hP hD hS hA hl.1 ⟨Nat.le_refl _, Nat.le_refl _⟩ (C_X0_isPlace l D cy a V p1 x1 hc1) gX0_dropRequest_X0_isPlace rfl (by decide +kernel) rfl ⟨by decide, by decide⟩ Jn.same rfl rfl rfl (Nat.le_of_ble_eq_true rfl) dX0_dropRequest_2 (fun H locs hP hD hS => ?_)
    refine lv_if_ne (tgt := 10) hx hb dX0_dropRequest_5 (by decide) (fun c2 => ?_) (fun c2 => ?_)
    · replace hc := ite_f c2 hc
      refine lv_aload_n hx hb dX0_dropRequest_10 rfl (lv_at hl 0 rfl) ?_
      refine va_get (ci := 0) (v := .ref (a 3)) (C := RX0) (T := TX0) (N := 10) hx hb hts inw_X0 hown hK.1 hP 0 rfl rfl 2 (by decide) fl_19 (fun _ h9 => h9) rfl dX0_dropRequest_11 ?_
      refine lv_iconst (v := 1) hx hb dX0_dropRequest_14 (by decide) ?_
      refine g_aald (v := a 23) hx hb hK hP 3 rfl (vp_lit (by decide)) rfl dX0_dropRequest_15 ?_
      refine lv_iload_n hx hb dX0_dropRequest_16 rfl (lv_at hl 1 rfl) ?_
      refine lv_iconst (v := 1) hx hb dX0_dropRequest_17 (by decide) ?_
      refine lv_isub hx hb dX0_dropRequest_18 ?_
      obtain ⟨x3, hi3, hv3, hc⟩ := rd_some hc
      refine g_iald (x := x3) hx hb hK hP 23 rfl hi3 hv3 dX0_dropRequest_19 ?_
      refine lv_istore_n (lv' := [(2, .int x3), (0, .ref (a 0)), (1, .int p1)]) hx hb dX0_dropRequest_20 rfl hl (by decide) rfl (fun ls hl => ?_)
      refine lv_iload_n hx hb dX0_dropRequest_21 rfl (lv_at hl 2 rfl) ?_
      refine lv_istore_n (lv' := [(3, .int p1), (2, .int x3), (0, .ref (a 0)), (1, .int p1)]) hx hb dX0_dropRequest_22 rfl hl (by decide) rfl (fun ls hl => ?_)
      exact L23 FUEL p1 x3 p1 V H locs ls hc hP hD hS (lv_sub hl [2, 3, 1, 0] rfl)
    · replace hc := ite_t c2 hc
      refine lv_iconst (v := (-1)) hx hb dX0_dropRequest_8 (by decide) ?_
      exact hend H locs _ _ _ _ (some_fst hc) (some_snd hc) rfl hP hD hS dX0_dropRequest_9
  rw [hHe, hLe] at goal0
  exact goal0
set_option maxHeartbeats 4000000 in
set_option maxRecDepth 100000 in
theorem C_X0_changeSetting (l : Launch) (D : va_G) (cy : Nat → ClassId) (a : Nat → Nat) (V : FV) (p1 : Int32) (p2 : Int32) (r : Int32) (V' : FV) (hc : f_X0_changeSetting V p1 p2 = some (r, V')) : ConI l yX0_changeSetting wsX0_changeSetting 0 0 D cy (FW cy a) [.ref (a 0), .int p1, .int p2] V V' r := by
  refine bodyI (cc := cX0_changeSetting) (maxL := 5) (ty := .int) (by decide +kernel) rfl (Nat.le_of_ble_eq_true rfl) ?_
  intro p e s m args below meth c A Q hx hb hml hts hown hK hP hD hA hS hend ls hl
  have hown : s.vm.findClass RX0 = some m.cls := hown
  have hP : va_P D vwCl (FW cy a V) s.heap := hP
  have hD : va_D A (FW cy a V) := hD
  have hl : lv_has ls 5 [(0, .ref (a 0)), (1, .int p1), (2, .int p2)] := hl
  have hend : ∀ (H : Heap) (locs : List Loc) (pc : Nat) (ls : Array Slot) (v : Int32) (V : FV), v = r → V = V' → narrow .int (.int v) = .int v → va_P D vwCl (FW cy a V) H → va_D A (FW cy a V) → va_S A s.heap H locs → decode cX0_changeSetting pc = .ok (.ireturn, 1) → W p l e (RM 0 0) s m args below meth c H locs 0 0 Q (F0 m pc ls [.int v]) := fun H locs pc ls v V h1 h2 h3 h4 h5 h6 h7 => hend H locs pc ls v V h1 h2 h3 h4 h5 h6 h7
  have fl_22 := hts (.fieldLink RX0 22 "NoonWells$Field" "settings" "[I") (by decide +kernel)
  have inw_X0 := (by decide +kernel : ∀ w ∈ u_ws RX0 TX0 10, w ∈ wsX0_changeSetting)
  obtain ⟨H, hHe⟩ : ∃ H : Heap, H = s.heap := ⟨_, rfl⟩
  obtain ⟨locs, hLe⟩ : ∃ x : List Loc, x = [] := ⟨_, rfl⟩
  have hP : va_P D vwCl (FW cy a V) H := by rw [hHe]; exact hP
  have hS : va_S A s.heap H locs := by rw [hHe, hLe]; exact hS
  have goal0 : W p l e (RM 0 0) s m args below meth c H locs 0 0 Q (F0 m 0 ls []) := by
    refine lv_iload_n hx hb dX0_changeSetting_0 rfl (lv_at hl 1 rfl) ?_
    refine lv_if_ne (tgt := 23) hx hb dX0_changeSetting_1 (by decide) (fun c1 => ?_) (fun c1 => ?_)
    · replace hc := ite_f c1 hc
      refine lv_iload_n hx hb dX0_changeSetting_23 rfl (lv_at hl 1 rfl) ?_
      refine lv_iconst (v := 1) hx hb dX0_changeSetting_24 (by decide) ?_
      refine lv_icmp_ne (tgt := 41) hx hb dX0_changeSetting_25 (by decide) (fun c2 => ?_) (fun c2 => ?_)
      · replace hc := ite_f c2 hc
        refine lv_iconst (v := 0) hx hb dX0_changeSetting_41 (by decide) ?_
        refine lv_istore_n (lv' := [(3, .int 0), (0, .ref (a 0)), (1, .int p1), (2, .int p2)]) hx hb dX0_changeSetting_42 rfl hl (by decide) rfl (fun ls hl => ?_)
        refine lv_iload_n hx hb dX0_changeSetting_43 rfl (lv_at hl 0 rfl) ?_
        refine lv_if_ne (tgt := 49) hx hb dX0_changeSetting_44 (by decide) (fun c9 => absurd c9 (by decide)) (fun _ => ?_)
        refine lv_iconst (v := (-1)) hx hb dX0_changeSetting_47 (by decide) ?_
        exact hend H locs _ _ _ _ (some_fst hc) (some_snd hc) rfl hP hD hS dX0_changeSetting_48
      · replace hc := ite_t c2 hc
        refine lv_iload_n hx hb dX0_changeSetting_28 rfl (lv_at hl 2 rfl) ?_
        refine lv_if_eq (tgt := 37) hx hb dX0_changeSetting_29 (by decide) (fun c3 => ?_) (fun c3 => ?_)
        · replace hc := ite_t c3 hc
          refine lv_iconst (v := 1) hx hb dX0_changeSetting_37 (by decide) ?_
          refine lv_goto (tgt := 42) hx hb dX0_changeSetting_38 (by decide) ?_
          refine lv_istore_n (lv' := [(3, .int 1), (0, .ref (a 0)), (1, .int p1), (2, .int p2)]) hx hb dX0_changeSetting_42 rfl hl (by decide) rfl (fun ls hl => ?_)
          refine lv_iload_n hx hb dX0_changeSetting_43 rfl (lv_at hl 0 rfl) ?_
          refine lv_if_ne (tgt := 49) hx hb dX0_changeSetting_44 (by decide) (fun _ => ?_) (fun c9 => absurd c9 (by decide))
          refine lv_aload_n hx hb dX0_changeSetting_49 rfl (lv_at hl 1 rfl) ?_
          refine va_get (ci := 0) (v := .ref (a 4)) (C := RX0) (T := TX0) (N := 10) hx hb hts inw_X0 hown hK.1 hP 0 rfl rfl 3 (by decide) fl_22 (fun _ h9 => h9) rfl dX0_changeSetting_50 ?_
          refine lv_iload_n hx hb dX0_changeSetting_53 rfl (lv_at hl 2 rfl) ?_
          obtain ⟨x4, hi4, hv4, hc⟩ := rd_some hc
          refine g_iald (x := x4) hx hb hK hP 4 rfl hi4 hv4 dX0_changeSetting_54 ?_
          refine lv_istore (lv' := [(4, .int x4), (3, .int 1), (0, .ref (a 0)), (1, .int p1), (2, .int p2)]) hx hb dX0_changeSetting_55 hl (by decide) rfl (fun ls hl => ?_)
          refine lv_aload_n hx hb dX0_changeSetting_57 rfl (lv_at hl 2 rfl) ?_
          refine va_get (ci := 0) (v := .ref (a 4)) (C := RX0) (T := TX0) (N := 10) hx hb hts inw_X0 hown hK.1 hP 0 rfl rfl 3 (by decide) fl_22 (fun _ h9 => h9) rfl dX0_changeSetting_58 ?_
          refine lv_iload_n hx hb dX0_changeSetting_61 rfl (lv_at hl 3 rfl) ?_
          refine lv_iload_n hx hb dX0_changeSetting_62 rfl (lv_at hl 4 rfl) ?_
          obtain ⟨V5, hi5, eV5, hc⟩ := wr_some hc
          refine g_iast (w' := FW cy a V5) hx hb hK hP hD hS 4 rfl hi5 (by rw [← eV5]; rfl) dX0_changeSetting_63 (fun H locs hP hD hS => ?_)
          refine lv_iload hx hb dX0_changeSetting_64 (lv_at hl 0 rfl) ?_
          exact hend H locs _ _ _ _ (some_fst hc) (some_snd hc) rfl hP hD hS dX0_changeSetting_66
        · replace hc := ite_f c3 hc
          refine lv_iload_n hx hb dX0_changeSetting_32 rfl (lv_at hl 2 rfl) ?_
          refine lv_iconst (v := 1) hx hb dX0_changeSetting_33 (by decide) ?_
          refine lv_icmp_ne (tgt := 41) hx hb dX0_changeSetting_34 (by decide) (fun c6 => ?_) (fun c6 => ?_)
          · replace hc := ite_f c6 hc
            refine lv_iconst (v := 0) hx hb dX0_changeSetting_41 (by decide) ?_
            refine lv_istore_n (lv' := [(3, .int 0), (0, .ref (a 0)), (1, .int p1), (2, .int p2)]) hx hb dX0_changeSetting_42 rfl hl (by decide) rfl (fun ls hl => ?_)
            refine lv_iload_n hx hb dX0_changeSetting_43 rfl (lv_at hl 0 rfl) ?_
            refine lv_if_ne (tgt := 49) hx hb dX0_changeSetting_44 (by decide) (fun c9 => absurd c9 (by decide)) (fun _ => ?_)
            refine lv_iconst (v := (-1)) hx hb dX0_changeSetting_47 (by decide) ?_
            exact hend H locs _ _ _ _ (some_fst hc) (some_snd hc) rfl hP hD hS dX0_changeSetting_48
          · replace hc := ite_t c6 hc
            refine lv_iconst (v := 1) hx hb dX0_changeSetting_37 (by decide) ?_
            refine lv_goto (tgt := 42) hx hb dX0_changeSetting_38 (by decide) ?_
            refine lv_istore_n (lv' := [(3, .int 1), (0, .ref (a 0)), (1, .int p1), (2, .int p2)]) hx hb dX0_changeSetting_42 rfl hl (by decide) rfl (fun ls hl => ?_)
            refine lv_iload_n hx hb dX0_changeSetting_43 rfl (lv_at hl 0 rfl) ?_
            refine lv_if_ne (tgt := 49) hx hb dX0_changeSetting_44 (by decide) (fun _ => ?_) (fun c9 => absurd c9 (by decide))
            refine lv_aload_n hx hb dX0_changeSetting_49 rfl (lv_at hl 1 rfl) ?_
            refine va_get (ci := 0) (v := .ref (a 4)) (C := RX0) (T := TX0) (N := 10) hx hb hts inw_X0 hown hK.1 hP 0 rfl rfl 3 (by decide) fl_22 (fun _ h9 => h9) rfl dX0_changeSetting_50 ?_
            refine lv_iload_n hx hb dX0_changeSetting_53 rfl (lv_at hl 2 rfl) ?_
            obtain ⟨x7, hi7, hv7, hc⟩ := rd_some hc
            refine g_iald (x := x7) hx hb hK hP 4 rfl hi7 hv7 dX0_changeSetting_54 ?_
            refine lv_istore (lv' := [(4, .int x7), (3, .int 1), (0, .ref (a 0)), (1, .int p1), (2, .int p2)]) hx hb dX0_changeSetting_55 hl (by decide) rfl (fun ls hl => ?_)
            refine lv_aload_n hx hb dX0_changeSetting_57 rfl (lv_at hl 2 rfl) ?_
            refine va_get (ci := 0) (v := .ref (a 4)) (C := RX0) (T := TX0) (N := 10) hx hb hts inw_X0 hown hK.1 hP 0 rfl rfl 3 (by decide) fl_22 (fun _ h9 => h9) rfl dX0_changeSetting_58 ?_
            refine lv_iload_n hx hb dX0_changeSetting_61 rfl (lv_at hl 3 rfl) ?_
            refine lv_iload_n hx hb dX0_changeSetting_62 rfl (lv_at hl 4 rfl) ?_
            obtain ⟨V8, hi8, eV8, hc⟩ := wr_some hc
            refine g_iast (w' := FW cy a V8) hx hb hK hP hD hS 4 rfl hi8 (by rw [← eV8]; rfl) dX0_changeSetting_63 (fun H locs hP hD hS => ?_)
            refine lv_iload hx hb dX0_changeSetting_64 (lv_at hl 0 rfl) ?_
            exact hend H locs _ _ _ _ (some_fst hc) (some_snd hc) rfl hP hD hS dX0_changeSetting_66
    · replace hc := ite_t c1 hc
      refine lv_iload_n hx hb dX0_changeSetting_4 rfl (lv_at hl 2 rfl) ?_
      refine lv_iconst (v := 4) hx hb dX0_changeSetting_5 (by decide) ?_
      refine lv_icmp_lt (tgt := 19) hx hb dX0_changeSetting_6 (by decide) (fun c9 => ?_) (fun c9 => ?_)
      · replace hc := ite_t c9 hc
        refine lv_iconst (v := 0) hx hb dX0_changeSetting_19 (by decide) ?_
        refine lv_goto (tgt := 42) hx hb dX0_changeSetting_20 (by decide) ?_
        refine lv_istore_n (lv' := [(3, .int 0), (0, .ref (a 0)), (1, .int p1), (2, .int p2)]) hx hb dX0_changeSetting_42 rfl hl (by decide) rfl (fun ls hl => ?_)
        refine lv_iload_n hx hb dX0_changeSetting_43 rfl (lv_at hl 0 rfl) ?_
        refine lv_if_ne (tgt := 49) hx hb dX0_changeSetting_44 (by decide) (fun c9 => absurd c9 (by decide)) (fun _ => ?_)
        refine lv_iconst (v := (-1)) hx hb dX0_changeSetting_47 (by decide) ?_
        exact hend H locs _ _ _ _ (some_fst hc) (some_snd hc) rfl hP hD hS dX0_changeSetting_48
      · replace hc := ite_f c9 hc
        refine lv_iload_n hx hb dX0_changeSetting_9 rfl (lv_at hl 2 rfl) ?_
        refine lv_bipush (v := 100) hx hb dX0_changeSetting_10 (by decide +kernel) ?_
        refine lv_icmp_gt (tgt := 19) hx hb dX0_changeSetting_12 (by decide) (fun c10 => ?_) (fun c10 => ?_)
        · replace hc := ite_t c10 hc
          refine lv_iconst (v := 0) hx hb dX0_changeSetting_19 (by decide) ?_
          refine lv_goto (tgt := 42) hx hb dX0_changeSetting_20 (by decide) ?_
          refine lv_istore_n (lv' := [(3, .int 0), (0, .ref (a 0)), (1, .int p1), (2, .int p2)]) hx hb dX0_changeSetting_42 rfl hl (by decide) rfl (fun ls hl => ?_)
          refine lv_iload_n hx hb dX0_changeSetting_43 rfl (lv_at hl 0 rfl) ?_
          refine lv_if_ne (tgt := 49) hx hb dX0_changeSetting_44 (by decide) (fun c9 => absurd c9 (by decide)) (fun _ => ?_)
          refine lv_iconst (v := (-1)) hx hb dX0_changeSetting_47 (by decide) ?_
          exact hend H locs _ _ _ _ (some_fst hc) (some_snd hc) rfl hP hD hS dX0_changeSetting_48
        · replace hc := ite_f c10 hc
          refine lv_iconst (v := 1) hx hb dX0_changeSetting_15 (by decide) ?_
          refine lv_goto (tgt := 42) hx hb dX0_changeSetting_16 (by decide) ?_
          refine lv_istore_n (lv' := [(3, .int 1), (0, .ref (a 0)), (1, .int p1), (2, .int p2)]) hx hb dX0_changeSetting_42 rfl hl (by decide) rfl (fun ls hl => ?_)
          refine lv_iload_n hx hb dX0_changeSetting_43 rfl (lv_at hl 0 rfl) ?_
          refine lv_if_ne (tgt := 49) hx hb dX0_changeSetting_44 (by decide) (fun _ => ?_) (fun c9 => absurd c9 (by decide))
          refine lv_aload_n hx hb dX0_changeSetting_49 rfl (lv_at hl 1 rfl) ?_
          refine va_get (ci := 0) (v := .ref (a 4)) (C := RX0) (T := TX0) (N := 10) hx hb hts inw_X0 hown hK.1 hP 0 rfl rfl 3 (by decide) fl_22 (fun _ h9 => h9) rfl dX0_changeSetting_50 ?_
          refine lv_iload_n hx hb dX0_changeSetting_53 rfl (lv_at hl 2 rfl) ?_
          obtain ⟨x11, hi11, hv11, hc⟩ := rd_some hc
          refine g_iald (x := x11) hx hb hK hP 4 rfl hi11 hv11 dX0_changeSetting_54 ?_
          refine lv_istore (lv' := [(4, .int x11), (3, .int 1), (0, .ref (a 0)), (1, .int p1), (2, .int p2)]) hx hb dX0_changeSetting_55 hl (by decide) rfl (fun ls hl => ?_)
          refine lv_aload_n hx hb dX0_changeSetting_57 rfl (lv_at hl 2 rfl) ?_
          refine va_get (ci := 0) (v := .ref (a 4)) (C := RX0) (T := TX0) (N := 10) hx hb hts inw_X0 hown hK.1 hP 0 rfl rfl 3 (by decide) fl_22 (fun _ h9 => h9) rfl dX0_changeSetting_58 ?_
          refine lv_iload_n hx hb dX0_changeSetting_61 rfl (lv_at hl 3 rfl) ?_
          refine lv_iload_n hx hb dX0_changeSetting_62 rfl (lv_at hl 4 rfl) ?_
          obtain ⟨V12, hi12, eV12, hc⟩ := wr_some hc
          refine g_iast (w' := FW cy a V12) hx hb hK hP hD hS 4 rfl hi12 (by rw [← eV12]; rfl) dX0_changeSetting_63 (fun H locs hP hD hS => ?_)
          refine lv_iload hx hb dX0_changeSetting_64 (lv_at hl 0 rfl) ?_
          exact hend H locs _ _ _ _ (some_fst hc) (some_snd hc) rfl hP hD hS dX0_changeSetting_66
  rw [hHe, hLe] at goal0
  exact goal0
