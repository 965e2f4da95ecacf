set_option maxHeartbeats 4000000 in
set_option maxRecDepth 100000 in
theorem C_X0_flowIn (l : Launch) (D : va_G) (cy : Nat → ClassId) (a : Nat → Nat) (V : FV) (V' : FV) (hc : f_X0_flowIn V = some V') : ConV l yX0_flowIn wsX0_flowIn 1 23 D cy (FW cy a) [.ref (a 0)] V V' := by
  refine bodyV (cc := cX0_flowIn) (maxL := 5) (by decide +kernel) rfl (Nat.le_of_ble_eq_true rfl) ?_
  intro p e s m args below meth c A Q hx hb hml hts hown hK hP hD hA hS hend ls hl
  have hown : s.vm.findClass RX0 = some m.cls := hown
  have hP : va_P D vwCl (FW cy a V) s.heap := hP
  have hD : va_D A (FW cy a V) := hD
  have hl : lv_has ls 5 [(0, .ref (a 0))] := hl
  have hend : ∀ (H : Heap) (locs : List Loc) (pc : Nat) (ls : Array Slot) (V : FV), V = V' → va_P D vwCl (FW cy a V) H → va_D A (FW cy a V) → va_S A s.heap H locs → decode cX0_flowIn pc = .ok (.return_, 1) → W p l e (RM 1 23) s m args below meth c H locs 0 0 Q (F0 m pc ls []) := fun H locs pc ls V h1 h2 h3 h4 h5 => hend H locs pc ls V h1 h2 h3 h4 h5
  have fl_43 := hts (.fieldLink RX0 43 "NoonWells$Field" "time" "I") (by decide +kernel)
  have inw_X0 := (by decide +kernel : ∀ w ∈ u_ws RX0 TX0 10, w ∈ wsX0_flowIn)
  have fl_33 := hts (.fieldLink RX0 33 "NoonWells$Field" "wellCount" "I") (by decide +kernel)
  have fl_11 := hts (.fieldLink RX0 11 "NoonWells$Field" "wells" "[[I") (by decide +kernel)
  have mm_l := hts (.methodLink RX0 49 Lib.Math.min.name) (by decide +kernel)
  have mm_s := hts (.static Lib.Math.min.name) (by decide +kernel)
  have mm_i := hts (.initialized "java/lang/Math") (by decide +kernel)
  have mm_c := hts (.code Lib.Math.min.name Lib.Math.min.code 2 (some .int)) (by decide +kernel)
  have L11 : ∀ (n : Nat), ∀ (y1 y2 : Int32) (V : FV) (H : Heap) (locs : List Loc) (ls : Array Slot), f_X0_flowIn_L11 n y1 y2 V = some V' → va_P D vwCl (FW cy a V) H → va_D A (FW cy a V) → va_S A s.heap H locs → lv_has ls 5 [(0, .ref (a 0)), (1, .int y1), (2, .int y2)] → W p l e (RM 1 23) s m args below meth c H locs 0 0 Q (F0 m 11 ls []) := by
    intro n
    induction n with
    | zero =>
      intro y1 y2 V H locs ls hc
      cases hc
    | succ n ih =>
      intro y1 y2 V H locs ls hc hP hD hS hl
      refine lv_iload_n hx hb dX0_flowIn_11 rfl (lv_at hl 2 rfl) ?_
      refine lv_aload_n hx hb dX0_flowIn_12 rfl (lv_at hl 0 rfl) ?_
      refine va_get (ci := 0) (v := .int (V 0 0)) (C := RX0) (T := TX0) (N := 10) hx hb hts inw_X0 hown hK.1 hP 0 rfl rfl 5 (by decide) fl_33 (fun _ h9 => h9) rfl dX0_flowIn_13 ?_
      refine lv_icmp_ge (tgt := 96) hx hb dX0_flowIn_16 (by decide) (fun c2 => ?_) (fun c2 => ?_)
      · replace hc := ite_t c2 hc
        exact hend H locs _ _ _ (some_one hc) hP hD hS dX0_flowIn_96
      · replace hc := ite_f c2 hc
        refine lv_iload_n hx hb dX0_flowIn_19 rfl (lv_at hl 1 rfl) ?_
        refine lv_iload_n hx hb dX0_flowIn_20 rfl (lv_at hl 2 rfl) ?_
        refine lv_ishr hx hb dX0_flowIn_21 ?_
        refine lv_iconst (v := 1) hx hb dX0_flowIn_22 (by decide) ?_
        refine lv_iand hx hb dX0_flowIn_23 ?_
        refine lv_if_ne (tgt := 90) hx hb dX0_flowIn_24 (by decide) (fun c3 => ?_) (fun c3 => ?_)
        · replace hc := ite_f c3 hc
          refine lv_iinc (v := y2 + 1) (lv' := [(2, .int (y2 + 1)), (0, .ref (a 0)), (1, .int y1)]) hx hb dX0_flowIn_90 hl (k := 2) rfl rfl (by decide) rfl (fun ls hl => ?_)
          refine lv_goto (tgt := 11) hx hb dX0_flowIn_93 (by decide) ?_
          exact ih y1 (y2 + 1) V H locs ls hc hP hD hS (lv_sub hl [1, 2, 0] rfl)
        · replace hc := ite_t c3 hc
          refine lv_aload_n hx hb dX0_flowIn_27 rfl (lv_at hl 0 rfl) ?_
          refine va_get (ci := 0) (v := .ref (a 1)) (C := RX0) (T := TX0) (N := 10) hx hb hts inw_X0 hown hK.1 hP 0 rfl rfl 0 (by decide) fl_11 (fun _ h9 => h9) rfl dX0_flowIn_28 ?_
          refine lv_iconst (v := 2) hx hb dX0_flowIn_31 (by decide) ?_
          refine g_aald (v := a 8) hx hb hK hP 1 rfl (vp_lit (by decide)) rfl dX0_flowIn_32 ?_
          refine lv_iload_n hx hb dX0_flowIn_33 rfl (lv_at hl 2 rfl) ?_
          obtain ⟨x4, hi4, hv4, hc⟩ := rd_some hc
          refine g_iald (x := x4) hx hb hK hP 8 rfl hi4 hv4 dX0_flowIn_34 ?_
          refine lv_istore_n (lv' := [(3, .int x4), (0, .ref (a 0)), (1, .int y1), (2, .int y2)]) hx hb dX0_flowIn_35 rfl hl (by decide) rfl (fun ls hl => ?_)
          refine lv_iload_n hx hb dX0_flowIn_36 rfl (lv_at hl 0 rfl) ?_
          refine lv_aload_n hx hb dX0_flowIn_37 rfl (lv_at hl 1 rfl) ?_
          refine lv_iload_n hx hb dX0_flowIn_38 rfl (lv_at hl 3 rfl) ?_
          obtain ⟨x5, hc5, hc⟩ := b1_some hc
          refine gc_VI (n := 1) (q0 := 0) (ci := 0) (w' := FW cy a V) hx hb hml hown hts hK hP hD hS hA hl.1 ⟨Nat.le_refl _, Nat.le_refl _⟩ (C_X0_roomIn l D cy a V y2 x5 hc5) gX0_flowIn_X0_roomIn rfl (by decide +kernel) rfl ⟨by decide, by decide⟩ Jn.same rfl rfl rfl (Nat.le_of_ble_eq_true rfl) dX0_flowIn_39 (fun H locs hP hD hS => ?_)
          obtain ⟨x6, ex6, hc⟩ := lt1_some hc
          refine g_min ex6 hx hb hml hl.1 hown mm_l mm_s mm_i mm_c (Nat.le_of_ble_eq_true rfl) (Nat.le_of_ble_eq_true rfl) (Nat.le_refl _) (Nat.le_refl _) dX0_flowIn_42 ?_
          refine lv_istore (lv' := [(4, .int x6), (3, .int x4), (0, .ref (a 0)), (1, .int y1), (2, .int y2)]) hx hb dX0_flowIn_45 hl (by decide) rfl (fun ls hl => ?_)
          refine lv_aload_n hx hb dX0_flowIn_47 rfl (lv_at hl 2 rfl) ?_
          refine va_get (ci := 0) (v := .ref (a 1)) (C := RX0) (T := TX0) (N := 10) hx hb hts inw_X0 hown hK.1 hP 0 rfl rfl 0 (by decide) fl_11 (fun _ h9 => h9) rfl dX0_flowIn_48 ?_
          refine lv_iconst (v := 4) hx hb dX0_flowIn_51 (by decide) ?_
          refine g_aald (v := a 10) hx hb hK hP 1 rfl (vp_lit (by decide)) rfl dX0_flowIn_52 ?_
          refine lv_iload_n hx hb dX0_flowIn_53 rfl (lv_at hl 4 rfl) ?_
          refine lv_dup2_11 hx hb dX0_flowIn_54 rfl rfl ?_
          obtain ⟨x7, hi7, hv7, hc⟩ := rd_some hc
          refine g_iald (x := x7) hx hb hK hP 10 rfl hi7 hv7 dX0_flowIn_55 ?_
          refine lv_iload hx hb dX0_flowIn_56 (lv_at hl 0 rfl) ?_
          refine lv_iadd hx hb dX0_flowIn_58 ?_
          obtain ⟨V8, hi8, eV8, hc⟩ := wr_some hc
          refine g_iast (w' := FW cy a V8) hx hb hK hP hD hS 10 rfl hi8 (by rw [← eV8]; rfl) dX0_flowIn_59 (fun H locs hP hD hS => ?_)
          refine lv_aload_n hx hb dX0_flowIn_60 rfl (lv_at hl 2 rfl) ?_
          refine va_get (ci := 0) (v := .ref (a 1)) (C := RX0) (T := TX0) (N := 10) hx hb hts inw_X0 hown hK.1 hP 0 rfl rfl 0 (by decide) fl_11 (fun _ h9 => h9) rfl dX0_flowIn_61 ?_
          refine lv_bipush (v := 6) hx hb dX0_flowIn_64 (by decide +kernel) ?_
          refine g_aald (v := a 12) hx hb hK hP 1 rfl (vp_lit (by decide)) rfl dX0_flowIn_66 ?_
          refine lv_iload_n hx hb dX0_flowIn_67 rfl (lv_at hl 4 rfl) ?_
          refine lv_dup2_11 hx hb dX0_flowIn_68 rfl rfl ?_
          obtain ⟨x9, hi9, hv9, hc⟩ := rd_some hc
          refine g_iald (x := x9) hx hb hK hP 12 rfl hi9 hv9 dX0_flowIn_69 ?_
          refine lv_iload hx hb dX0_flowIn_70 (lv_at hl 0 rfl) ?_
          refine lv_iadd hx hb dX0_flowIn_72 ?_
          obtain ⟨V10, hi10, eV10, hc⟩ := wr_some hc
          refine g_iast (w' := FW cy a V10) hx hb hK hP hD hS 12 rfl hi10 (by rw [← eV10]; rfl) dX0_flowIn_73 (fun H locs hP hD hS => ?_)
          refine lv_aload_n hx hb dX0_flowIn_74 rfl (lv_at hl 2 rfl) ?_
          refine va_get (ci := 0) (v := .ref (a 1)) (C := RX0) (T := TX0) (N := 10) hx hb hts inw_X0 hown hK.1 hP 0 rfl rfl 0 (by decide) fl_11 (fun _ h9 => h9) rfl dX0_flowIn_75 ?_
          refine lv_bipush (v := 7) hx hb dX0_flowIn_78 (by decide +kernel) ?_
          refine g_aald (v := a 13) hx hb hK hP 1 rfl (vp_lit (by decide)) rfl dX0_flowIn_80 ?_
          refine lv_iload_n hx hb dX0_flowIn_81 rfl (lv_at hl 4 rfl) ?_
          refine lv_dup2_11 hx hb dX0_flowIn_82 rfl rfl ?_
          obtain ⟨x11, hi11, hv11, hc⟩ := rd_some hc
          refine g_iald (x := x11) hx hb hK hP 13 rfl hi11 hv11 dX0_flowIn_83 ?_
          refine lv_iload_n hx hb dX0_flowIn_84 rfl (lv_at hl 1 rfl) ?_
          refine lv_iload hx hb dX0_flowIn_85 (lv_at hl 0 rfl) ?_
          refine lv_isub hx hb dX0_flowIn_87 ?_
          refine lv_iadd hx hb dX0_flowIn_88 ?_
          obtain ⟨V12, hi12, eV12, hc⟩ := wr_some hc
          refine g_iast (w' := FW cy a V12) hx hb hK hP hD hS 13 rfl hi12 (by rw [← eV12]; rfl) dX0_flowIn_89 (fun H locs hP hD hS => ?_)
          refine lv_iinc (v := y2 + 1) (lv' := [(2, .int (y2 + 1)), (4, .int x6), (3, .int x4), (0, .ref (a 0)), (1, .int y1)]) hx hb dX0_flowIn_90 hl (k := 4) rfl rfl (by decide) rfl (fun ls hl => ?_)
          refine lv_goto (tgt := 11) hx hb dX0_flowIn_93 (by decide) ?_
          exact ih y1 (y2 + 1) V12 H locs ls hc hP hD hS (lv_sub hl [3, 4, 0] rfl)
  obtain ⟨H, hHe⟩ : ∃ H : Heap, H = s.heap := ⟨_, rfl⟩
  obtain ⟨locs, hLe⟩ : ∃ x : List Loc, x = [] := ⟨_, rfl⟩
  have hP : va_P D vwCl (FW cy a V) H := by rw [hHe]; exact hP
  have hS : va_S A s.heap H locs := by rw [hHe, hLe]; exact hS
  have goal0 : W p l e (RM 1 23) s m args below meth c H locs 0 0 Q (F0 m 0 ls []) := by
    refine lv_aload_n hx hb dX0_flowIn_0 rfl (lv_at hl 0 rfl) ?_
    refine lv_aload_n hx hb dX0_flowIn_1 rfl (lv_at hl 0 rfl) ?_
    refine va_get (ci := 0) (v := .int (V 0 3)) (C := RX0) (T := TX0) (N := 10) hx hb hts inw_X0 hown hK.1 hP 0 rfl rfl 8 (by decide) fl_43 (fun _ h9 => h9) rfl dX0_flowIn_2 ?_
    obtain ⟨x1, hc1, hc⟩ := b1_some hc
    refine gc_VI (n := 1) (q0 := 0) (ci := 0) (w' := FW cy a V) hx hb hml hown hts hK hP hD hS hA hl.1 ⟨Nat.le_refl _, Nat.le_refl _⟩ (C_X0_dryWells l D cy a V (V 0 3) x1 hc1) gX0_flowIn_X0_dryWells rfl (by decide +kernel) rfl ⟨by decide, by decide⟩ Jn.same rfl rfl rfl (Nat.le_of_ble_eq_true rfl) dX0_flowIn_5 (fun H locs hP hD hS => ?_)
    refine lv_istore_n (lv' := [(1, .int x1), (0, .ref (a 0))]) hx hb dX0_flowIn_8 rfl hl (by decide) rfl (fun ls hl => ?_)
    refine lv_iconst (v := 0) hx hb dX0_flowIn_9 (by decide) ?_
    refine lv_istore_n (lv' := [(2, .int 0), (1, .int x1), (0, .ref (a 0))]) hx hb dX0_flowIn_10 rfl hl (by decide) rfl (fun ls hl => ?_)
    exact L11 FUEL x1 0 V H locs ls hc hP hD hS (lv_sub hl [2, 1, 0] rfl)
  rw [hHe, hLe] at goal0
  exact goal0
set_option maxHeartbeats 4000000 in
set_option maxRecDepth 100000 in
theorem C_X0_lendAtNoon (l : Launch) (D : va_G) (cy : Nat → ClassId) (a : Nat → Nat) (V : FV) (r : Int32) (V' : FV) (hc : f_X0_lendAtNoon V = some (r, V')) : ConI l yX0_lendAtNoon wsX0_lendAtNoon 1 21 D cy (FW cy a) [.ref (a 0)] V V' r := by
  refine bodyI (cc := cX0_lendAtNoon) (maxL := 6) (ty := .int) (by decide +kernel) rfl (Nat.le_of_ble_eq_true rfl) ?_
  intro p e s m args below meth c A Q hx hb hml hts hown hK hP hD hA hS hend ls hl
  have hown : s.vm.findClass RX0 = some m.cls := hown
  have hP : va_P D vwCl (FW cy a V) s.heap := hP
  have hD : va_D A (FW cy a V) := hD
  have hl : lv_has ls 6 [(0, .ref (a 0))] := hl
  have hend : ∀ (H : Heap) (locs : List Loc) (pc : Nat) (ls : Array Slot) (v : Int32) (V : FV), v = r → V = V' → narrow .int (.int v) = .int v → va_P D vwCl (FW cy a V) H → va_D A (FW cy a V) → va_S A s.heap H locs → decode cX0_lendAtNoon pc = .ok (.ireturn, 1) → W p l e (RM 1 21) s m args below meth c H locs 0 0 Q (F0 m pc ls [.int v]) := fun H locs pc ls v V h1 h2 h3 h4 h5 h6 h7 => hend H locs pc ls v V h1 h2 h3 h4 h5 h6 h7
  have fl_33 := hts (.fieldLink RX0 33 "NoonWells$Field" "wellCount" "I") (by decide +kernel)
  have inw_X0 := (by decide +kernel : ∀ w ∈ u_ws RX0 TX0 10, w ∈ wsX0_lendAtNoon)
  have fl_11 := hts (.fieldLink RX0 11 "NoonWells$Field" "wells" "[[I") (by decide +kernel)
  have mm_l := hts (.methodLink RX0 49 Lib.Math.min.name) (by decide +kernel)
  have mm_s := hts (.static Lib.Math.min.name) (by decide +kernel)
  have mm_i := hts (.initialized "java/lang/Math") (by decide +kernel)
  have mm_c := hts (.code Lib.Math.min.name Lib.Math.min.code 2 (some .int)) (by decide +kernel)
  have L9 : ∀ (n : Nat), ∀ (y1 y2 : Int32) (V : FV) (H : Heap) (locs : List Loc) (ls : Array Slot), f_X0_lendAtNoon_L9 n y1 y2 V = some (r, V') → va_P D vwCl (FW cy a V) H → va_D A (FW cy a V) → va_S A s.heap H locs → lv_has ls 6 [(0, .ref (a 0)), (1, .int y1), (2, .int y2)] → W p l e (RM 1 21) s m args below meth c H locs 0 0 Q (F0 m 9 ls []) := by
    intro n
    induction n with
    | zero =>
      intro y1 y2 V H locs ls hc
      cases hc
    | succ n ih =>
      intro y1 y2 V H locs ls hc hP hD hS hl
      refine lv_iload_n hx hb dX0_lendAtNoon_9 rfl (lv_at hl 2 rfl) ?_
      refine lv_if_le (tgt := 137) hx hb dX0_lendAtNoon_10 (by decide) (fun c1 => ?_) (fun c1 => ?_)
      · replace hc := ite_t c1 hc
        refine lv_iload_n hx hb dX0_lendAtNoon_137 rfl (lv_at hl 1 rfl) ?_
        exact hend H locs _ _ _ _ (some_fst hc) (some_snd hc) rfl hP hD hS dX0_lendAtNoon_138
      · replace hc := ite_f c1 hc
        refine lv_aload_n hx hb dX0_lendAtNoon_13 rfl (lv_at hl 0 rfl) ?_
        refine va_get (ci := 0) (v := .ref (a 1)) (C := RX0) (T := TX0) (N := 10) hx hb hts inw_X0 hown hK.1 hP 0 rfl rfl 0 (by decide) fl_11 (fun _ h9 => h9) rfl dX0_lendAtNoon_14 ?_
        refine lv_iconst (v := 0) hx hb dX0_lendAtNoon_17 (by decide) ?_
        refine g_aald (v := a 6) hx hb hK hP 1 rfl (vp_lit (by decide)) rfl dX0_lendAtNoon_18 ?_
        refine lv_iload_n hx hb dX0_lendAtNoon_19 rfl (lv_at hl 2 rfl) ?_
        obtain ⟨x2, hi2, hv2, hc⟩ := rd_some hc
        refine g_iald (x := x2) hx hb hK hP 6 rfl hi2 hv2 dX0_lendAtNoon_20 ?_
        refine lv_istore_n (lv' := [(3, .int x2), (0, .ref (a 0)), (1, .int y1), (2, .int y2)]) hx hb dX0_lendAtNoon_21 rfl hl (by decide) rfl (fun ls hl => ?_)
        refine lv_aload_n hx hb dX0_lendAtNoon_22 rfl (lv_at hl 1 rfl) ?_
        refine va_get (ci := 0) (v := .ref (a 1)) (C := RX0) (T := TX0) (N := 10) hx hb hts inw_X0 hown hK.1 hP 0 rfl rfl 0 (by decide) fl_11 (fun _ h9 => h9) rfl dX0_lendAtNoon_23 ?_
        refine lv_iconst (v := 4) hx hb dX0_lendAtNoon_26 (by decide) ?_
        refine g_aald (v := a 10) hx hb hK hP 1 rfl (vp_lit (by decide)) rfl dX0_lendAtNoon_27 ?_
        refine lv_iload_n hx hb dX0_lendAtNoon_28 rfl (lv_at hl 3 rfl) ?_
        obtain ⟨x3, hi3, hv3, hc⟩ := rd_some hc
        refine g_iald (x := x3) hx hb hK hP 10 rfl hi3 hv3 dX0_lendAtNoon_29 ?_
        refine lv_aload_n hx hb dX0_lendAtNoon_30 rfl (lv_at hl 1 rfl) ?_
        refine va_get (ci := 0) (v := .ref (a 1)) (C := RX0) (T := TX0) (N := 10) hx hb hts inw_X0 hown hK.1 hP 0 rfl rfl 0 (by decide) fl_11 (fun _ h9 => h9) rfl dX0_lendAtNoon_31 ?_
        refine lv_iconst (v := 1) hx hb dX0_lendAtNoon_34 (by decide) ?_
        refine g_aald (v := a 7) hx hb hK hP 1 rfl (vp_lit (by decide)) rfl dX0_lendAtNoon_35 ?_
        refine lv_iload_n hx hb dX0_lendAtNoon_36 rfl (lv_at hl 3 rfl) ?_
        obtain ⟨x4, hi4, hv4, hc⟩ := rd_some hc
        refine g_iald (x := x4) hx hb hK hP 7 rfl hi4 hv4 dX0_lendAtNoon_37 ?_
        refine lv_iconst (v := 2) hx hb dX0_lendAtNoon_38 (by decide) ?_
        refine lv_idiv hx hb dX0_lendAtNoon_39 (by decide) ?_
        refine lv_isub hx hb dX0_lendAtNoon_40 ?_
        refine lv_istore (lv' := [(4, .int (x3 - (x4 / 2))), (3, .int x2), (0, .ref (a 0)), (1, .int y1), (2, .int y2)]) hx hb dX0_lendAtNoon_41 hl (by decide) rfl (fun ls hl => ?_)
        refine lv_aload_n hx hb dX0_lendAtNoon_43 rfl (lv_at hl 2 rfl) ?_
        refine lv_iload_n hx hb dX0_lendAtNoon_44 rfl (lv_at hl 1 rfl) ?_
        obtain ⟨x5, hc5, hc⟩ := b1_some hc
        refine gc_VI (n := 1) (q0 := 0) (ci := 0) (w' := FW cy a V) hx hb hml hown hts hK hP hD hS hA hl.1 ⟨Nat.le_refl _, Nat.le_refl _⟩ (C_X0_isWell l D cy a V x2 x5 hc5) gX0_lendAtNoon_X0_isWell rfl (by decide +kernel) rfl ⟨by decide, by decide⟩ Jn.same rfl rfl rfl (Nat.le_of_ble_eq_true rfl) dX0_lendAtNoon_45 (fun H locs hP hD hS => ?_)
        refine lv_if_eq (tgt := 64) hx hb dX0_lendAtNoon_48 (by decide) (fun c6 => ?_) (fun c6 => ?_)
        · replace hc := ite_t c6 hc
          refine lv_iconst (v := 0) hx hb dX0_lendAtNoon_64 (by decide) ?_
          refine lv_istore (lv' := [(5, .int 0), (4, .int (x3 - (x4 / 2))), (3, .int x2), (0, .ref (a 0)), (1, .int y1), (2, .int y2)]) hx hb dX0_lendAtNoon_65 hl (by decide) rfl (fun ls hl => ?_)
          refine lv_iload hx hb dX0_lendAtNoon_67 (lv_at hl 0 rfl) ?_
          refine lv_if_le (tgt := 131) hx hb dX0_lendAtNoon_69 (by decide) (fun _ => ?_) (fun c9 => absurd c9 (by decide))
          refine lv_iinc (v := y2 + (-1)) (lv' := [(2, .int (y2 + (-1))), (5, .int 0), (4, .int (x3 - (x4 / 2))), (3, .int x2), (0, .ref (a 0)), (1, .int y1)]) hx hb dX0_lendAtNoon_131 hl (k := 5) rfl rfl (by decide) rfl (fun ls hl => ?_)
          refine lv_goto (tgt := 9) hx hb dX0_lendAtNoon_134 (by decide) ?_
          exact ih y1 (y2 + (-1)) V H locs ls hc hP hD hS (lv_sub hl [4, 5, 0] rfl)
        · replace hc := ite_f c6 hc
          refine lv_iload hx hb dX0_lendAtNoon_51 (lv_at hl 0 rfl) ?_
          refine lv_aload_n hx hb dX0_lendAtNoon_53 rfl (lv_at hl 2 rfl) ?_
          refine lv_iload_n hx hb dX0_lendAtNoon_54 rfl (lv_at hl 1 rfl) ?_
          obtain ⟨x7, hc7, hc⟩ := b1_some hc
          refine gc_VI (n := 1) (q0 := 0) (ci := 0) (w' := FW cy a V) hx hb hml hown hts hK hP hD hS hA hl.1 ⟨Nat.le_refl _, Nat.le_refl _⟩ (C_X0_roomIn l D cy a V x2 x7 hc7) gX0_lendAtNoon_X0_roomIn rfl (by decide +kernel) rfl ⟨by decide, by decide⟩ Jn.same rfl rfl rfl (Nat.le_of_ble_eq_true rfl) dX0_lendAtNoon_55 (fun H locs hP hD hS => ?_)
          obtain ⟨x8, ex8, hc⟩ := lt1_some hc
          refine g_min ex8 hx hb hml hl.1 hown mm_l mm_s mm_i mm_c (Nat.le_of_ble_eq_true rfl) (Nat.le_of_ble_eq_true rfl) (Nat.le_refl _) (Nat.le_refl _) dX0_lendAtNoon_58 ?_
          refine lv_goto (tgt := 65) hx hb dX0_lendAtNoon_61 (by decide) ?_
          refine lv_istore (lv' := [(5, .int x8), (4, .int (x3 - (x4 / 2))), (3, .int x2), (0, .ref (a 0)), (1, .int y1), (2, .int y2)]) hx hb dX0_lendAtNoon_65 hl (by decide) rfl (fun ls hl => ?_)
          refine lv_iload hx hb dX0_lendAtNoon_67 (lv_at hl 0 rfl) ?_
          refine lv_if_le (tgt := 131) hx hb dX0_lendAtNoon_69 (by decide) (fun c9 => ?_) (fun c9 => ?_)
          · replace hc := ite_t c9 hc
            refine lv_iinc (v := y2 + (-1)) (lv' := [(2, .int (y2 + (-1))), (5, .int x8), (4, .int (x3 - (x4 / 2))), (3, .int x2), (0, .ref (a 0)), (1, .int y1)]) hx hb dX0_lendAtNoon_131 hl (k := 5) rfl rfl (by decide) rfl (fun ls hl => ?_)
            refine lv_goto (tgt := 9) hx hb dX0_lendAtNoon_134 (by decide) ?_
            exact ih y1 (y2 + (-1)) V H locs ls hc hP hD hS (lv_sub hl [4, 5, 0] rfl)
          · replace hc := ite_f c9 hc
            refine lv_aload_n hx hb dX0_lendAtNoon_72 rfl (lv_at hl 3 rfl) ?_
            refine va_get (ci := 0) (v := .ref (a 1)) (C := RX0) (T := TX0) (N := 10) hx hb hts inw_X0 hown hK.1 hP 0 rfl rfl 0 (by decide) fl_11 (fun _ h9 => h9) rfl dX0_lendAtNoon_73 ?_
            refine lv_iconst (v := 4) hx hb dX0_lendAtNoon_76 (by decide) ?_
            refine g_aald (v := a 10) hx hb hK hP 1 rfl (vp_lit (by decide)) rfl dX0_lendAtNoon_77 ?_
            refine lv_iload_n hx hb dX0_lendAtNoon_78 rfl (lv_at hl 5 rfl) ?_
            refine lv_dup2_11 hx hb dX0_lendAtNoon_79 rfl rfl ?_
            obtain ⟨x10, hi10, hv10, hc⟩ := rd_some hc
            refine g_iald (x := x10) hx hb hK hP 10 rfl hi10 hv10 dX0_lendAtNoon_80 ?_
            refine lv_iload hx hb dX0_lendAtNoon_81 (lv_at hl 0 rfl) ?_
            refine lv_isub hx hb dX0_lendAtNoon_83 ?_
            obtain ⟨V11, hi11, eV11, hc⟩ := wr_some hc
            refine g_iast (w' := FW cy a V11) hx hb hK hP hD hS 10 rfl hi11 (by rw [← eV11]; rfl) dX0_lendAtNoon_84 (fun H locs hP hD hS => ?_)
            refine lv_aload_n hx hb dX0_lendAtNoon_85 rfl (lv_at hl 3 rfl) ?_
            refine va_get (ci := 0) (v := .ref (a 1)) (C := RX0) (T := TX0) (N := 10) hx hb hts inw_X0 hown hK.1 hP 0 rfl rfl 0 (by decide) fl_11 (fun _ h9 => h9) rfl dX0_lendAtNoon_86 ?_
            refine lv_iconst (v := 4) hx hb dX0_lendAtNoon_89 (by decide) ?_
            refine g_aald (v := a 10) hx hb hK hP 1 rfl (vp_lit (by decide)) rfl dX0_lendAtNoon_90 ?_
            refine lv_iload_n hx hb dX0_lendAtNoon_91 rfl (lv_at hl 2 rfl) ?_
            refine lv_dup2_11 hx hb dX0_lendAtNoon_92 rfl rfl ?_
            obtain ⟨x12, hi12, hv12, hc⟩ := rd_some hc
            refine g_iald (x := x12) hx hb hK hP 10 rfl hi12 hv12 dX0_lendAtNoon_93 ?_
            refine lv_iload hx hb dX0_lendAtNoon_94 (lv_at hl 0 rfl) ?_
            refine lv_iadd hx hb dX0_lendAtNoon_96 ?_
            obtain ⟨V13, hi13, eV13, hc⟩ := wr_some hc
            refine g_iast (w' := FW cy a V13) hx hb hK hP hD hS 10 rfl hi13 (by rw [← eV13]; rfl) dX0_lendAtNoon_97 (fun H locs hP hD hS => ?_)
            refine lv_aload_n hx hb dX0_lendAtNoon_98 rfl (lv_at hl 3 rfl) ?_
            refine va_get (ci := 0) (v := .ref (a 1)) (C := RX0) (T := TX0) (N := 10) hx hb hts inw_X0 hown hK.1 hP 0 rfl rfl 0 (by decide) fl_11 (fun _ h9 => h9) rfl dX0_lendAtNoon_99 ?_
            refine lv_iconst (v := 5) hx hb dX0_lendAtNoon_102 (by decide) ?_
            refine g_aald (v := a 11) hx hb hK hP 1 rfl (vp_lit (by decide)) rfl dX0_lendAtNoon_103 ?_
            refine lv_iload_n hx hb dX0_lendAtNoon_104 rfl (lv_at hl 5 rfl) ?_
            refine lv_dup2_11 hx hb dX0_lendAtNoon_105 rfl rfl ?_
            obtain ⟨x14, hi14, hv14, hc⟩ := rd_some hc
            refine g_iald (x := x14) hx hb hK hP 11 rfl hi14 hv14 dX0_lendAtNoon_106 ?_
            refine lv_iload hx hb dX0_lendAtNoon_107 (lv_at hl 0 rfl) ?_
            refine lv_iadd hx hb dX0_lendAtNoon_109 ?_
            obtain ⟨V15, hi15, eV15, hc⟩ := wr_some hc
            refine g_iast (w' := FW cy a V15) hx hb hK hP hD hS 11 rfl hi15 (by rw [← eV15]; rfl) dX0_lendAtNoon_110 (fun H locs hP hD hS => ?_)
            refine lv_aload_n hx hb dX0_lendAtNoon_111 rfl (lv_at hl 3 rfl) ?_
            refine va_get (ci := 0) (v := .ref (a 1)) (C := RX0) (T := TX0) (N := 10) hx hb hts inw_X0 hown hK.1 hP 0 rfl rfl 0 (by decide) fl_11 (fun _ h9 => h9) rfl dX0_lendAtNoon_112 ?_
            refine lv_bipush (v := 10) hx hb dX0_lendAtNoon_115 (by decide +kernel) ?_
            refine g_aald (v := a 16) hx hb hK hP 1 rfl (vp_lit (by decide)) rfl dX0_lendAtNoon_117 ?_
            refine lv_iload_n hx hb dX0_lendAtNoon_118 rfl (lv_at hl 2 rfl) ?_
            refine lv_dup2_11 hx hb dX0_lendAtNoon_119 rfl rfl ?_
            obtain ⟨x16, hi16, hv16, hc⟩ := rd_some hc
            refine g_iald (x := x16) hx hb hK hP 16 rfl hi16 hv16 dX0_lendAtNoon_120 ?_
            refine lv_iload hx hb dX0_lendAtNoon_121 (lv_at hl 0 rfl) ?_
            refine lv_iadd hx hb dX0_lendAtNoon_123 ?_
            obtain ⟨V17, hi17, eV17, hc⟩ := wr_some hc
            refine g_iast (w' := FW cy a V17) hx hb hK hP hD hS 16 rfl hi17 (by rw [← eV17]; rfl) dX0_lendAtNoon_124 (fun H locs hP hD hS => ?_)
            refine lv_iload_n hx hb dX0_lendAtNoon_125 rfl (lv_at hl 4 rfl) ?_
            refine lv_iconst (v := 1) hx hb dX0_lendAtNoon_126 (by decide) ?_
            refine lv_iload_n hx hb dX0_lendAtNoon_127 rfl (lv_at hl 5 rfl) ?_
            refine lv_ishl hx hb dX0_lendAtNoon_128 ?_
            refine lv_ior hx hb dX0_lendAtNoon_129 ?_
            refine lv_istore_n (lv' := [(1, .int (y1 ||| (1 <<< (y2 &&& 31)))), (5, .int x8), (4, .int (x3 - (x4 / 2))), (3, .int x2), (0, .ref (a 0)), (2, .int y2)]) hx hb dX0_lendAtNoon_130 rfl hl (by decide) rfl (fun ls hl => ?_)
            refine lv_iinc (v := y2 + (-1)) (lv' := [(2, .int (y2 + (-1))), (1, .int (y1 ||| (1 <<< (y2 &&& 31)))), (5, .int x8), (4, .int (x3 - (x4 / 2))), (3, .int x2), (0, .ref (a 0))]) hx hb dX0_lendAtNoon_131 hl (k := 5) rfl rfl (by decide) rfl (fun ls hl => ?_)
            refine lv_goto (tgt := 9) hx hb dX0_lendAtNoon_134 (by decide) ?_
            exact ih (y1 ||| (1 <<< (y2 &&& 31))) (y2 + (-1)) V17 H locs ls hc hP hD hS (lv_sub hl [5, 1, 0] rfl)
  obtain ⟨H, hHe⟩ : ∃ H : Heap, H = s.heap := ⟨_, rfl⟩
  obtain ⟨locs, hLe⟩ : ∃ x : List Loc, x = [] := ⟨_, rfl⟩
  have hP : va_P D vwCl (FW cy a V) H := by rw [hHe]; exact hP
  have hS : va_S A s.heap H locs := by rw [hHe, hLe]; exact hS
  have goal0 : W p l e (RM 1 21) s m args below meth c H locs 0 0 Q (F0 m 0 ls []) := by
    refine lv_iconst (v := 0) hx hb dX0_lendAtNoon_0 (by decide) ?_
    refine lv_istore_n (lv' := [(1, .int 0), (0, .ref (a 0))]) hx hb dX0_lendAtNoon_1 rfl hl (by decide) rfl (fun ls hl => ?_)
    refine lv_aload_n hx hb dX0_lendAtNoon_2 rfl (lv_at hl 1 rfl) ?_
    refine va_get (ci := 0) (v := .int (V 0 0)) (C := RX0) (T := TX0) (N := 10) hx hb hts inw_X0 hown hK.1 hP 0 rfl rfl 5 (by decide) fl_33 (fun _ h9 => h9) rfl dX0_lendAtNoon_3 ?_
    refine lv_iconst (v := 1) hx hb dX0_lendAtNoon_6 (by decide) ?_
    refine lv_isub hx hb dX0_lendAtNoon_7 ?_
    refine lv_istore_n (lv' := [(2, .int ((V 0 0) - 1)), (1, .int 0), (0, .ref (a 0))]) hx hb dX0_lendAtNoon_8 rfl hl (by decide) rfl (fun ls hl => ?_)
    exact L9 FUEL 0 ((V 0 0) - 1) V H locs ls hc hP hD hS (lv_sub hl [2, 1, 0] rfl)
  rw [hHe, hLe] at goal0
  exact goal0
set_option maxHeartbeats 4000000 in
set_option maxRecDepth 100000 in
theorem C_X0_payBack (l : Launch) (D : va_G) (cy : Nat → ClassId) (a : Nat → Nat) (V : FV) (p1 : Int32) (p2 : Int32) (V' : FV) (hc : f_X0_payBack V p1 p2 = some V') : ConV l yX0_payBack wsX0_payBack 1 21 D cy (FW cy a) [.ref (a 0), .int p1, .int p2] V V' := by
  refine bodyV (cc := cX0_payBack) (maxL := 4) (by decide +kernel) rfl (Nat.le_of_ble_eq_true rfl) ?_
  intro p e s m args below meth c A Q hx hb hml hts hown hK hP hD hA hS hend ls hl
  have hown : s.vm.findClass RX0 = some m.cls := hown
  have hP : va_P D vwCl (FW cy a V) s.heap := hP
  have hD : va_D A (FW cy a V) := hD
  have hl : lv_has ls 4 [(0, .ref (a 0)), (1, .int p1), (2, .int p2)] := hl
  have hend : ∀ (H : Heap) (locs : List Loc) (pc : Nat) (ls : Array Slot) (V : FV), V = V' → va_P D vwCl (FW cy a V) H → va_D A (FW cy a V) → va_S A s.heap H locs → decode cX0_payBack pc = .ok (.return_, 1) → W p l e (RM 1 21) s m args below meth c H locs 0 0 Q (F0 m pc ls []) := fun H locs pc ls V h1 h2 h3 h4 h5 => hend H locs pc ls V h1 h2 h3 h4 h5
  have fl_11 := hts (.fieldLink RX0 11 "NoonWells$Field" "wells" "[[I") (by decide +kernel)
  have inw_X0 := (by decide +kernel : ∀ w ∈ u_ws RX0 TX0 10, w ∈ wsX0_payBack)
  have mm_l := hts (.methodLink RX0 49 Lib.Math.min.name) (by decide +kernel)
  have mm_s := hts (.static Lib.Math.min.name) (by decide +kernel)
  have mm_i := hts (.initialized "java/lang/Math") (by decide +kernel)
  have mm_c := hts (.code Lib.Math.min.name Lib.Math.min.code 2 (some .int)) (by decide +kernel)
  obtain ⟨H, hHe⟩ : ∃ H : Heap, H = s.heap := ⟨_, rfl⟩
  obtain ⟨locs, hLe⟩ : ∃ x : List Loc, x = [] := ⟨_, rfl⟩
  have hP : va_P D vwCl (FW cy a V) H := by rw [hHe]; exact hP
  have hS : va_S A s.heap H locs := by rw [hHe, hLe]; exact hS
  have goal0 : W p l e (RM 1 21) s m args below meth c H locs 0 0 Q (F0 m 0 ls []) := by
    refine lv_aload_n hx hb dX0_payBack_0 rfl (lv_at hl 0 rfl) ?_
    refine va_get (ci := 0) (v := .ref (a 1)) (C := RX0) (T := TX0) (N := 10) hx hb hts inw_X0 hown hK.1 hP 0 rfl rfl 0 (by decide) fl_11 (fun _ h9 => h9) rfl dX0_payBack_1 ?_
    refine lv_iconst (v := 5) hx hb dX0_payBack_4 (by decide) ?_
    refine g_aald (v := a 11) hx hb hK hP 1 rfl (vp_lit (by decide)) rfl dX0_payBack_5 ?_
    refine lv_iload_n hx hb dX0_payBack_6 rfl (lv_at hl 2 rfl) ?_
    obtain ⟨x1, hi1, hv1, hc⟩ := rd_some hc
    refine g_iald (x := x1) hx hb hK hP 11 rfl hi1 hv1 dX0_payBack_7 ?_
    refine lv_aload_n hx hb dX0_payBack_8 rfl (lv_at hl 0 rfl) ?_
    refine va_get (ci := 0) (v := .ref (a 1)) (C := RX0) (T := TX0) (N := 10) hx hb hts inw_X0 hown hK.1 hP 0 rfl rfl 0 (by decide) fl_11 (fun _ h9 => h9) rfl dX0_payBack_9 ?_
    refine lv_iconst (v := 4) hx hb dX0_payBack_12 (by decide) ?_
    refine g_aald (v := a 10) hx hb hK hP 1 rfl (vp_lit (by decide)) rfl dX0_payBack_13 ?_
    refine lv_iload_n hx hb dX0_payBack_14 rfl (lv_at hl 1 rfl) ?_
    obtain ⟨x2, hi2, hv2, hc⟩ := rd_some hc
    refine g_iald (x := x2) hx hb hK hP 10 rfl hi2 hv2 dX0_payBack_15 ?_
    refine lv_aload_n hx hb dX0_payBack_16 rfl (lv_at hl 0 rfl) ?_
    refine lv_iload_n hx hb dX0_payBack_17 rfl (lv_at hl 2 rfl) ?_
    obtain ⟨x3, hc3, hc⟩ := b1_some hc
    refine gc_VI (n := 1) (q0 := 0) (ci := 0) (w' := FW cy a V) hx hb hml hown hts hK hP hD hS hA hl.1 ⟨Nat.le_refl _, Nat.le_refl _⟩ (C_X0_roomIn l D cy a V p2 x3 hc3) gX0_payBack_X0_roomIn rfl (by decide +kernel) rfl ⟨by decide, by decide⟩ Jn.same rfl rfl rfl (Nat.le_of_ble_eq_true rfl) dX0_payBack_18 (fun H locs hP hD hS => ?_)
    obtain ⟨x4, ex4, hc⟩ := lt1_some hc
    refine g_min ex4 hx hb hml hl.1 hown mm_l mm_s mm_i mm_c (Nat.le_of_ble_eq_true rfl) (Nat.le_of_ble_eq_true rfl) (Nat.le_refl _) (Nat.le_refl _) dX0_payBack_21 ?_
    obtain ⟨x5, ex5, hc⟩ := lt1_some hc
    refine g_min ex5 hx hb hml hl.1 hown mm_l mm_s mm_i mm_c (Nat.le_of_ble_eq_true rfl) (Nat.le_of_ble_eq_true rfl) (Nat.le_refl _) (Nat.le_refl _) dX0_payBack_24 ?_
    refine lv_istore_n (lv' := [(3, .int x5), (0, .ref (a 0)), (1, .int p1), (2, .int p2)]) hx hb dX0_payBack_27 rfl hl (by decide) rfl (fun ls hl => ?_)
    refine lv_aload_n hx hb dX0_payBack_28 rfl (lv_at hl 1 rfl) ?_
    refine va_get (ci := 0) (v := .ref (a 1)) (C := RX0) (T := TX0) (N := 10) hx hb hts inw_X0 hown hK.1 hP 0 rfl rfl 0 (by decide) fl_11 (fun _ h9 => h9) rfl dX0_payBack_29 ?_
    refine lv_iconst (v := 4) hx hb dX0_payBack_32 (by decide) ?_
    refine g_aald (v := a 10) hx hb hK hP 1 rfl (vp_lit (by decide)) rfl dX0_payBack_33 ?_
    refine lv_iload_n hx hb dX0_payBack_34 rfl (lv_at hl 2 rfl) ?_
    refine lv_dup2_11 hx hb dX0_payBack_35 rfl rfl ?_
    obtain ⟨x6, hi6, hv6, hc⟩ := rd_some hc
    refine g_iald (x := x6) hx hb hK hP 10 rfl hi6 hv6 dX0_payBack_36 ?_
    refine lv_iload_n hx hb dX0_payBack_37 rfl (lv_at hl 0 rfl) ?_
    refine lv_isub hx hb dX0_payBack_38 ?_
    obtain ⟨V7, hi7, eV7, hc⟩ := wr_some hc
    refine g_iast (w' := FW cy a V7) hx hb hK hP hD hS 10 rfl hi7 (by rw [← eV7]; rfl) dX0_payBack_39 (fun H locs hP hD hS => ?_)
    refine lv_aload_n hx hb dX0_payBack_40 rfl (lv_at hl 1 rfl) ?_
    refine va_get (ci := 0) (v := .ref (a 1)) (C := RX0) (T := TX0) (N := 10) hx hb hts inw_X0 hown hK.1 hP 0 rfl rfl 0 (by decide) fl_11 (fun _ h9 => h9) rfl dX0_payBack_41 ?_
    refine lv_iconst (v := 4) hx hb dX0_payBack_44 (by decide) ?_
    refine g_aald (v := a 10) hx hb hK hP 1 rfl (vp_lit (by decide)) rfl dX0_payBack_45 ?_
    refine lv_iload_n hx hb dX0_payBack_46 rfl (lv_at hl 3 rfl) ?_
    refine lv_dup2_11 hx hb dX0_payBack_47 rfl rfl ?_
    obtain ⟨x8, hi8, hv8, hc⟩ := rd_some hc
    refine g_iald (x := x8) hx hb hK hP 10 rfl hi8 hv8 dX0_payBack_48 ?_
    refine lv_iload_n hx hb dX0_payBack_49 rfl (lv_at hl 0 rfl) ?_
    refine lv_iadd hx hb dX0_payBack_50 ?_
    obtain ⟨V9, hi9, eV9, hc⟩ := wr_some hc
    refine g_iast (w' := FW cy a V9) hx hb hK hP hD hS 10 rfl hi9 (by rw [← eV9]; rfl) dX0_payBack_51 (fun H locs hP hD hS => ?_)
    refine lv_aload_n hx hb dX0_payBack_52 rfl (lv_at hl 1 rfl) ?_
    refine va_get (ci := 0) (v := .ref (a 1)) (C := RX0) (T := TX0) (N := 10) hx hb hts inw_X0 hown hK.1 hP 0 rfl rfl 0 (by decide) fl_11 (fun _ h9 => h9) rfl dX0_payBack_53 ?_
    refine lv_iconst (v := 5) hx hb dX0_payBack_56 (by decide) ?_
    refine g_aald (v := a 11) hx hb hK hP 1 rfl (vp_lit (by decide)) rfl dX0_payBack_57 ?_
    refine lv_iload_n hx hb dX0_payBack_58 rfl (lv_at hl 3 rfl) ?_
    refine lv_dup2_11 hx hb dX0_payBack_59 rfl rfl ?_
    obtain ⟨x10, hi10, hv10, hc⟩ := rd_some hc
    refine g_iald (x := x10) hx hb hK hP 11 rfl hi10 hv10 dX0_payBack_60 ?_
    refine lv_iload_n hx hb dX0_payBack_61 rfl (lv_at hl 0 rfl) ?_
    refine lv_isub hx hb dX0_payBack_62 ?_
    obtain ⟨V11, hi11, eV11, hc⟩ := wr_some hc
    refine g_iast (w' := FW cy a V11) hx hb hK hP hD hS 11 rfl hi11 (by rw [← eV11]; rfl) dX0_payBack_63 (fun H locs hP hD hS => ?_)
    refine lv_aload_n hx hb dX0_payBack_64 rfl (lv_at hl 1 rfl) ?_
    refine va_get (ci := 0) (v := .ref (a 1)) (C := RX0) (T := TX0) (N := 10) hx hb hts inw_X0 hown hK.1 hP 0 rfl rfl 0 (by decide) fl_11 (fun _ h9 => h9) rfl dX0_payBack_65 ?_
    refine lv_bipush (v := 11) hx hb dX0_payBack_68 (by decide +kernel) ?_
    refine g_aald (v := a 17) hx hb hK hP 1 rfl (vp_lit (by decide)) rfl dX0_payBack_70 ?_
    refine lv_iload_n hx hb dX0_payBack_71 rfl (lv_at hl 3 rfl) ?_
    refine lv_dup2_11 hx hb dX0_payBack_72 rfl rfl ?_
    obtain ⟨x12, hi12, hv12, hc⟩ := rd_some hc
    refine g_iald (x := x12) hx hb hK hP 17 rfl hi12 hv12 dX0_payBack_73 ?_
    refine lv_iload_n hx hb dX0_payBack_74 rfl (lv_at hl 0 rfl) ?_
    refine lv_iadd hx hb dX0_payBack_75 ?_
    obtain ⟨V13, hi13, eV13, hc⟩ := wr_some hc
    refine g_iast (w' := FW cy a V13) hx hb hK hP hD hS 17 rfl hi13 (by rw [← eV13]; rfl) dX0_payBack_76 (fun H locs hP hD hS => ?_)
    exact hend H locs _ _ _ (some_one hc) hP hD hS dX0_payBack_77
  rw [hHe, hLe] at goal0
  exact goal0
set_option maxHeartbeats 4000000 in
set_option maxRecDepth 100000 in
theorem C_X0_payBackInEvening (l : Launch) (D : va_G) (cy : Nat → ClassId) (a : Nat → Nat) (V : FV) (V' : FV) (hc : f_X0_payBackInEvening V = some V') : ConV l yX0_payBackInEvening wsX0_payBackInEvening 2 44 D cy (FW cy a) [.ref (a 0)] V V' := by
  refine bodyV (cc := cX0_payBackInEvening) (maxL := 3) (by decide +kernel) rfl (Nat.le_of_ble_eq_true rfl) ?_
  intro p e s m args below meth c A Q hx hb hml hts hown hK hP hD hA hS hend ls hl
  have hown : s.vm.findClass RX0 = some m.cls := hown
  have hP : va_P D vwCl (FW cy a V) s.heap := hP
  have hD : va_D A (FW cy a V) := hD
  have hl : lv_has ls 3 [(0, .ref (a 0))] := hl
  have hend : ∀ (H : Heap) (locs : List Loc) (pc : Nat) (ls : Array Slot) (V : FV), V = V' → va_P D vwCl (FW cy a V) H → va_D A (FW cy a V) → va_S A s.heap H locs → decode cX0_payBackInEvening pc = .ok (.return_, 1) → W p l e (RM 2 44) s m args below meth c H locs 0 0 Q (F0 m pc ls []) := fun H locs pc ls V h1 h2 h3 h4 h5 => hend H locs pc ls V h1 h2 h3 h4 h5
  have fl_33 := hts (.fieldLink RX0 33 "NoonWells$Field" "wellCount" "I") (by decide +kernel)
  have inw_X0 := (by decide +kernel : ∀ w ∈ u_ws RX0 TX0 10, w ∈ wsX0_payBackInEvening)
  have fl_11 := hts (.fieldLink RX0 11 "NoonWells$Field" "wells" "[[I") (by decide +kernel)
  have L14 : ∀ (k2 : Int32 → FV → Option (FV)) (hk2 : ∀ (y1 : Int32) (V : FV) (H : Heap) (locs : List Loc) (ls : Array Slot), k2 y1 V = some V' → va_P D vwCl (FW cy a V) H → va_D A (FW cy a V) → va_S A s.heap H locs → lv_has ls 3 [(0, .ref (a 0)), (1, .int y1)] → W p l e (RM 2 44) s m args below meth c H locs 0 0 Q (F0 m 2 ls [])) (n : Nat), ∀ (y1 y2 : Int32) (V : FV) (H : Heap) (locs : List Loc) (ls : Array Slot), f_X0_payBackInEvening_L14 k2 n y1 y2 V = some V' → va_P D vwCl (FW cy a V) H → va_D A (FW cy a V) → va_S A s.heap H locs → lv_has ls 3 [(0, .ref (a 0)), (1, .int y1), (2, .int y2)] → W p l e (RM 2 44) s m args below meth c H locs 0 0 Q (F0 m 14 ls []) := by
    intro k2 hk2 n
    induction n with
    | zero =>
      intro y1 y2 V H locs ls hc
      cases hc
    | succ n ih =>
      intro y1 y2 V H locs ls hc hP hD hS hl
      refine lv_iload_n hx hb dX0_payBackInEvening_14 rfl (lv_at hl 2 rfl) ?_
      refine lv_aload_n hx hb dX0_payBackInEvening_15 rfl (lv_at hl 0 rfl) ?_
      refine va_get (ci := 0) (v := .int (V 0 0)) (C := RX0) (T := TX0) (N := 10) hx hb hts inw_X0 hown hK.1 hP 0 rfl rfl 5 (by decide) fl_33 (fun _ h9 => h9) rfl dX0_payBackInEvening_16 ?_
      refine lv_icmp_ge (tgt := 46) hx hb dX0_payBackInEvening_19 (by decide) (fun c2 => ?_) (fun c2 => ?_)
      · replace hc := ite_t c2 hc
        refine lv_iinc (v := y1 + 1) (lv' := [(1, .int (y1 + 1)), (0, .ref (a 0)), (2, .int y2)]) hx hb dX0_payBackInEvening_46 hl (k := 1) rfl rfl (by decide) rfl (fun ls hl => ?_)
        refine lv_goto (tgt := 2) hx hb dX0_payBackInEvening_49 (by decide) ?_
        exact hk2 (y1 + 1) V H locs ls hc hP hD hS (lv_sub hl [1, 0] rfl)
      · replace hc := ite_f c2 hc
        refine lv_aload_n hx hb dX0_payBackInEvening_22 rfl (lv_at hl 0 rfl) ?_
        refine va_get (ci := 0) (v := .ref (a 1)) (C := RX0) (T := TX0) (N := 10) hx hb hts inw_X0 hown hK.1 hP 0 rfl rfl 0 (by decide) fl_11 (fun _ h9 => h9) rfl dX0_payBackInEvening_23 ?_
        refine lv_iconst (v := 0) hx hb dX0_payBackInEvening_26 (by decide) ?_
        refine g_aald (v := a 6) hx hb hK hP 1 rfl (vp_lit (by decide)) rfl dX0_payBackInEvening_27 ?_
        refine lv_iload_n hx hb dX0_payBackInEvening_28 rfl (lv_at hl 2 rfl) ?_
        obtain ⟨x3, hi3, hv3, hc⟩ := rd_some hc
        refine g_iald (x := x3) hx hb hK hP 6 rfl hi3 hv3 dX0_payBackInEvening_29 ?_
        refine lv_iload_n hx hb dX0_payBackInEvening_30 rfl (lv_at hl 1 rfl) ?_
        refine lv_icmp_ne (tgt := 40) hx hb dX0_payBackInEvening_31 (by decide) (fun c4 => ?_) (fun c4 => ?_)
        · replace hc := ite_f c4 hc
          refine lv_iinc (v := y2 + 1) (lv' := [(2, .int (y2 + 1)), (0, .ref (a 0)), (1, .int y1)]) hx hb dX0_payBackInEvening_40 hl (k := 2) rfl rfl (by decide) rfl (fun ls hl => ?_)
          refine lv_goto (tgt := 14) hx hb dX0_payBackInEvening_43 (by decide) ?_
          exact ih y1 (y2 + 1) V H locs ls hc hP hD hS (lv_sub hl [1, 2, 0] rfl)
        · replace hc := ite_t c4 hc
          refine lv_aload_n hx hb dX0_payBackInEvening_34 rfl (lv_at hl 0 rfl) ?_
          refine lv_iload_n hx hb dX0_payBackInEvening_35 rfl (lv_at hl 1 rfl) ?_
          refine lv_iload_n hx hb dX0_payBackInEvening_36 rfl (lv_at hl 2 rfl) ?_
          obtain ⟨V5, hc5, hc⟩ := b1_some hc
          refine gc_VV (n := 2) (q0 := 0) (ci := 0) (w' := FW cy a V5) hx hb hml hown hts hK hP hD hS hA hl.1 ⟨Nat.le_refl _, Nat.le_refl _⟩ (C_X0_payBack l D cy a V y1 y2 V5 hc5) gX0_payBackInEvening_X0_payBack rfl (by decide +kernel) rfl ⟨by decide, by decide⟩ Jn.same rfl rfl rfl (Nat.le_of_ble_eq_true rfl) dX0_payBackInEvening_37 (fun H locs hP hD hS => ?_)
          refine lv_iinc (v := y2 + 1) (lv' := [(2, .int (y2 + 1)), (0, .ref (a 0)), (1, .int y1)]) hx hb dX0_payBackInEvening_40 hl (k := 2) rfl rfl (by decide) rfl (fun ls hl => ?_)
          refine lv_goto (tgt := 14) hx hb dX0_payBackInEvening_43 (by decide) ?_
          exact ih y1 (y2 + 1) V5 H locs ls hc hP hD hS (lv_sub hl [1, 2, 0] rfl)
  have L2 : ∀ (n : Nat), ∀ (y1 : Int32) (V : FV) (H : Heap) (locs : List Loc) (ls : Array Slot), f_X0_payBackInEvening_L2 n y1 V = some V' → va_P D vwCl (FW cy a V) H → va_D A (FW cy a V) → va_S A s.heap H locs → lv_has ls 3 [(0, .ref (a 0)), (1, .int y1)] → W p l e (RM 2 44) s m args below meth c H locs 0 0 Q (F0 m 2 ls []) := by
    intro n
    induction n with
    | zero =>
      intro y1 V H locs ls hc
      cases hc
    | succ n ih =>
      intro y1 V H locs ls hc hP hD hS hl
      refine lv_iload_n hx hb dX0_payBackInEvening_2 rfl (lv_at hl 1 rfl) ?_
      refine lv_aload_n hx hb dX0_payBackInEvening_3 rfl (lv_at hl 0 rfl) ?_
      refine va_get (ci := 0) (v := .int (V 0 0)) (C := RX0) (T := TX0) (N := 10) hx hb hts inw_X0 hown hK.1 hP 0 rfl rfl 5 (by decide) fl_33 (fun _ h9 => h9) rfl dX0_payBackInEvening_4 ?_
      refine lv_icmp_ge (tgt := 52) hx hb dX0_payBackInEvening_7 (by decide) (fun c1 => ?_) (fun c1 => ?_)
      · replace hc := ite_t c1 hc
        exact hend H locs _ _ _ (some_one hc) hP hD hS dX0_payBackInEvening_52
      · replace hc := ite_f c1 hc
        refine lv_iload_n hx hb dX0_payBackInEvening_10 rfl (lv_at hl 1 rfl) ?_
        refine lv_iconst (v := 1) hx hb dX0_payBackInEvening_11 (by decide) ?_
        refine lv_iadd hx hb dX0_payBackInEvening_12 ?_
        refine lv_istore_n (lv' := [(2, .int (y1 + 1)), (0, .ref (a 0)), (1, .int y1)]) hx hb dX0_payBackInEvening_13 rfl hl (by decide) rfl (fun ls hl => ?_)
        exact L14 (f_X0_payBackInEvening_L2 n) ih FUEL y1 (y1 + 1) V H locs ls hc hP hD hS (lv_sub hl [1, 2, 0] rfl)
  obtain ⟨H, hHe⟩ : ∃ H : Heap, H = s.heap := ⟨_, rfl⟩
  obtain ⟨locs, hLe⟩ : ∃ x : List Loc, x = [] := ⟨_, rfl⟩
  have hP : va_P D vwCl (FW cy a V) H := by rw [hHe]; exact hP
  have hS : va_S A s.heap H locs := by rw [hHe, hLe]; exact hS
  have goal0 : W p l e (RM 2 44) s m args below meth c H locs 0 0 Q (F0 m 0 ls []) := by
    refine lv_iconst (v := 0) hx hb dX0_payBackInEvening_0 (by decide) ?_
    refine lv_istore_n (lv' := [(1, .int 0), (0, .ref (a 0))]) hx hb dX0_payBackInEvening_1 rfl hl (by decide) rfl (fun ls hl => ?_)
    exact L2 FUEL 0 V H locs ls hc hP hD hS (lv_sub hl [1, 0] rfl)
  rw [hHe, hLe] at goal0
  exact goal0
set_option maxHeartbeats 4000000 in
set_option maxRecDepth 100000 in
theorem C_X0_serveWaiting (l : Launch) (D : va_G) (cy : Nat → ClassId) (a : Nat → Nat) (V : FV) (r : Int32) (V' : FV) (hc : f_X0_serveWaiting V = some (r, V')) : ConI l yX0_serveWaiting wsX0_serveWaiting 2 50 D cy (FW cy a) [.ref (a 0)] V V' r := by
  refine bodyI (cc := cX0_serveWaiting) (maxL := 7) (ty := .int) (by decide +kernel) rfl (Nat.le_of_ble_eq_true rfl) ?_
  intro p e s m args below meth c A Q hx hb hml hts hown hK hP hD hA hS hend ls hl
  have hown : s.vm.findClass RX0 = some m.cls := hown
  have hP : va_P D vwCl (FW cy a V) s.heap := hP
  have hD : va_D A (FW cy a V) := hD
  have hl : lv_has ls 7 [(0, .ref (a 0))] := hl
  have hend : ∀ (H : Heap) (locs : List Loc) (pc : Nat) (ls : Array Slot) (v : Int32) (V : FV), v = r → V = V' → narrow .int (.int v) = .int v → va_P D vwCl (FW cy a V) H → va_D A (FW cy a V) → va_S A s.heap H locs → decode cX0_serveWaiting pc = .ok (.ireturn, 1) → W p l e (RM 2 50) s m args below meth c H locs 0 0 Q (F0 m pc ls [.int v]) := fun H locs pc ls v V h1 h2 h3 h4 h5 h6 h7 => hend H locs pc ls v V h1 h2 h3 h4 h5 h6 h7
  have fl_40 := hts (.fieldLink RX0 40 "NoonWells$Field" "waiting" "I") (by decide +kernel)
  have inw_X0 := (by decide +kernel : ∀ w ∈ u_ws RX0 TX0 10, w ∈ wsX0_serveWaiting)
  have fl_46 := hts (.fieldLink RX0 46 "NoonWells$Field" "drawnBehindWaiting" "I") (by decide +kernel)
  have fl_19 := hts (.fieldLink RX0 19 "NoonWells$Field" "requests" "[[I") (by decide +kernel)
  have fl_22 := hts (.fieldLink RX0 22 "NoonWells$Field" "settings" "[I") (by decide +kernel)
  have L12 : ∀ (n : Nat), ∀ (y1 y2 y3 y4 : Int32) (V : FV) (H : Heap) (locs : List Loc) (ls : Array Slot), f_X0_serveWaiting_L12 n y1 y2 y3 y4 V = some (r, V') → va_P D vwCl (FW cy a V) H → va_D A (FW cy a V) → va_S A s.heap H locs → lv_has ls 7 [(0, .ref (a 0)), (1, .int y1), (2, .int y2), (3, .int y3), (4, .int y4)] → W p l e (RM 2 50) s m args below meth c H locs 0 0 Q (F0 m 12 ls []) := by
    intro n
    induction n with
    | zero =>
      intro y1 y2 y3 y4 V H locs ls hc
      cases hc
    | succ n ih =>
      intro y1 y2 y3 y4 V H locs ls hc hP hD hS hl
      refine lv_iload hx hb dX0_serveWaiting_12 (lv_at hl 4 rfl) ?_
      refine lv_iload_n hx hb dX0_serveWaiting_14 rfl (lv_at hl 3 rfl) ?_
      refine lv_icmp_ge (tgt := 99) hx hb dX0_serveWaiting_15 (by decide) (fun c1 => ?_) (fun c1 => ?_)
      · replace hc := ite_t c1 hc
        refine lv_aload_n hx hb dX0_serveWaiting_99 rfl (lv_at hl 0 rfl) ?_
        refine lv_iload_n hx hb dX0_serveWaiting_100 rfl (lv_at hl 1 rfl) ?_
        obtain ⟨V2, eV2, hc⟩ := lt1_some hc
        refine g_put (ci := 0) (C := RX0) (T := TX0) (N := 10) (w' := FW cy a V2) hx hb hts inw_X0 tyX0 tyX0_ok nmX0 hown hK hP hD hS 0 rfl rfl 7 (by decide) fl_40 (fun _ h9 => h9) rfl (by decide +kernel) (Nat.le_of_ble_eq_true rfl) (by rw [← eV2]; rfl) dX0_serveWaiting_101 (fun H locs hP hD hS => ?_)
        refine lv_aload_n hx hb dX0_serveWaiting_104 rfl (lv_at hl 0 rfl) ?_
        refine lv_dup hx hb dX0_serveWaiting_105 rfl ?_
        refine va_get (ci := 0) (v := .int (V2 0 4)) (C := RX0) (T := TX0) (N := 10) hx hb hts inw_X0 hown hK.1 hP 0 rfl rfl 9 (by decide) fl_46 (fun _ h9 => h9) rfl dX0_serveWaiting_106 ?_
        refine lv_iload_n hx hb dX0_serveWaiting_109 rfl (lv_at hl 3 rfl) ?_
        refine lv_iload_n hx hb dX0_serveWaiting_110 rfl (lv_at hl 1 rfl) ?_
        refine lv_isub hx hb dX0_serveWaiting_111 ?_
        refine lv_iadd hx hb dX0_serveWaiting_112 ?_
        obtain ⟨V3, eV3, hc⟩ := lt1_some hc
        refine g_put (ci := 0) (C := RX0) (T := TX0) (N := 10) (w' := FW cy a V3) hx hb hts inw_X0 tyX0 tyX0_ok nmX0 hown hK hP hD hS 0 rfl rfl 9 (by decide) fl_46 (fun _ h9 => h9) rfl (by decide +kernel) (Nat.le_of_ble_eq_true rfl) (by rw [← eV3]; rfl) dX0_serveWaiting_113 (fun H locs hP hD hS => ?_)
        refine lv_iload_n hx hb dX0_serveWaiting_116 rfl (lv_at hl 3 rfl) ?_
        refine lv_iload_n hx hb dX0_serveWaiting_117 rfl (lv_at hl 1 rfl) ?_
        refine lv_isub hx hb dX0_serveWaiting_118 ?_
        exact hend H locs _ _ _ _ (some_fst hc) (some_snd hc) rfl hP hD hS dX0_serveWaiting_119
      · replace hc := ite_f c1 hc
        refine lv_aload_n hx hb dX0_serveWaiting_18 rfl (lv_at hl 0 rfl) ?_
        refine va_get (ci := 0) (v := .ref (a 3)) (C := RX0) (T := TX0) (N := 10) hx hb hts inw_X0 hown hK.1 hP 0 rfl rfl 2 (by decide) fl_19 (fun _ h9 => h9) rfl dX0_serveWaiting_19 ?_
        refine lv_iconst (v := 0) hx hb dX0_serveWaiting_22 (by decide) ?_
        refine g_aald (v := a 22) hx hb hK hP 3 rfl (vp_lit (by decide)) rfl dX0_serveWaiting_23 ?_
        refine lv_iload hx hb dX0_serveWaiting_24 (lv_at hl 4 rfl) ?_
        obtain ⟨x4, hi4, hv4, hc⟩ := rd_some hc
        refine g_iald (x := x4) hx hb hK hP 22 rfl hi4 hv4 dX0_serveWaiting_26 ?_
        refine lv_istore (lv' := [(5, .int x4), (0, .ref (a 0)), (1, .int y1), (2, .int y2), (3, .int y3), (4, .int y4)]) hx hb dX0_serveWaiting_27 hl (by decide) rfl (fun ls hl => ?_)
        refine lv_aload_n hx hb dX0_serveWaiting_29 rfl (lv_at hl 1 rfl) ?_
        refine va_get (ci := 0) (v := .ref (a 3)) (C := RX0) (T := TX0) (N := 10) hx hb hts inw_X0 hown hK.1 hP 0 rfl rfl 2 (by decide) fl_19 (fun _ h9 => h9) rfl dX0_serveWaiting_30 ?_
        refine lv_iconst (v := 1) hx hb dX0_serveWaiting_33 (by decide) ?_
        refine g_aald (v := a 23) hx hb hK hP 3 rfl (vp_lit (by decide)) rfl dX0_serveWaiting_34 ?_
        refine lv_iload hx hb dX0_serveWaiting_35 (lv_at hl 5 rfl) ?_
        obtain ⟨x5, hi5, hv5, hc⟩ := rd_some hc
        refine g_iald (x := x5) hx hb hK hP 23 rfl hi5 hv5 dX0_serveWaiting_37 ?_
        refine lv_istore (lv' := [(6, .int x5), (5, .int x4), (0, .ref (a 0)), (1, .int y1), (2, .int y2), (3, .int y3), (4, .int y4)]) hx hb dX0_serveWaiting_38 hl (by decide) rfl (fun ls hl => ?_)
        refine lv_iload_n hx hb dX0_serveWaiting_40 rfl (lv_at hl 4 rfl) ?_
        refine lv_if_eq (tgt := 67) hx hb dX0_serveWaiting_41 (by decide) (fun c6 => ?_) (fun c6 => ?_)
        · replace hc := ite_t c6 hc
          refine lv_aload_n hx hb dX0_serveWaiting_67 rfl (lv_at hl 2 rfl) ?_
          refine va_get (ci := 0) (v := .ref (a 4)) (C := RX0) (T := TX0) (N := 10) hx hb hts inw_X0 hown hK.1 hP 0 rfl rfl 3 (by decide) fl_22 (fun _ h9 => h9) rfl dX0_serveWaiting_68 ?_
          refine lv_iconst (v := 1) hx hb dX0_serveWaiting_71 (by decide) ?_
          refine g_iald (x := V 4 1) hx hb hK hP 4 rfl (vp_lit (by decide)) rfl dX0_serveWaiting_72 ?_
          refine lv_iconst (v := 1) hx hb dX0_serveWaiting_73 (by decide) ?_
          refine lv_icmp_ne (tgt := 81) hx hb dX0_serveWaiting_74 (by decide) (fun c7 => ?_) (fun c7 => ?_)
          · replace hc := ite_f c7 hc
            refine lv_iconst (v := 0) hx hb dX0_serveWaiting_81 (by decide) ?_
            refine lv_istore_n (lv' := [(2, .int 0), (6, .int x5), (5, .int x4), (0, .ref (a 0)), (1, .int y1), (3, .int y3), (4, .int y4)]) hx hb dX0_serveWaiting_82 rfl hl (by decide) rfl (fun ls hl => ?_)
            refine lv_aload_n hx hb dX0_serveWaiting_83 rfl (lv_at hl 3 rfl) ?_
            refine lv_iload hx hb dX0_serveWaiting_84 (lv_at hl 6 rfl) ?_
            refine lv_iload_n hx hb dX0_serveWaiting_86 rfl (lv_at hl 4 rfl) ?_
            obtain ⟨V8, hc8, hc⟩ := b1_some hc
            refine gc_VV (n := 2) (q0 := 0) (ci := 0) (w' := FW cy a V8) hx hb hml hown hts hK hP hD hS hA hl.1 ⟨Nat.le_refl _, Nat.le_refl _⟩ (C_X0_moveRequest l D cy a V y4 y1 V8 hc8) gX0_serveWaiting_X0_moveRequest rfl (by decide +kernel) rfl ⟨by decide, by decide⟩ Jn.same rfl rfl rfl (Nat.le_of_ble_eq_true rfl) dX0_serveWaiting_87 (fun H locs hP hD hS => ?_)
            refine lv_iinc (v := y1 + 1) (lv' := [(1, .int (y1 + 1)), (2, .int 0), (6, .int x5), (5, .int x4), (0, .ref (a 0)), (3, .int y3), (4, .int y4)]) hx hb dX0_serveWaiting_90 hl (k := 4) rfl rfl (by decide) rfl (fun ls hl => ?_)
            refine lv_iinc (v := y4 + 1) (lv' := [(4, .int (y4 + 1)), (1, .int (y1 + 1)), (2, .int 0), (6, .int x5), (5, .int x4), (0, .ref (a 0)), (3, .int y3)]) hx hb dX0_serveWaiting_93 hl (k := 6) rfl rfl (by decide) rfl (fun ls hl => ?_)
            refine lv_goto (tgt := 12) hx hb dX0_serveWaiting_96 (by decide) ?_
            exact ih (y1 + 1) 0 y3 (y4 + 1) V8 H locs ls hc hP hD hS (lv_sub hl [5, 1, 2, 6, 0] rfl)
          · replace hc := ite_t c7 hc
            refine lv_iconst (v := 1) hx hb dX0_serveWaiting_77 (by decide) ?_
            refine lv_goto (tgt := 82) hx hb dX0_serveWaiting_78 (by decide) ?_
            refine lv_istore_n (lv' := [(2, .int 1), (6, .int x5), (5, .int x4), (0, .ref (a 0)), (1, .int y1), (3, .int y3), (4, .int y4)]) hx hb dX0_serveWaiting_82 rfl hl (by decide) rfl (fun ls hl => ?_)
            refine lv_aload_n hx hb dX0_serveWaiting_83 rfl (lv_at hl 3 rfl) ?_
            refine lv_iload hx hb dX0_serveWaiting_84 (lv_at hl 6 rfl) ?_
            refine lv_iload_n hx hb dX0_serveWaiting_86 rfl (lv_at hl 4 rfl) ?_
            obtain ⟨V9, hc9, hc⟩ := b1_some hc
            refine gc_VV (n := 2) (q0 := 0) (ci := 0) (w' := FW cy a V9) hx hb hml hown hts hK hP hD hS hA hl.1 ⟨Nat.le_refl _, Nat.le_refl _⟩ (C_X0_moveRequest l D cy a V y4 y1 V9 hc9) gX0_serveWaiting_X0_moveRequest rfl (by decide +kernel) rfl ⟨by decide, by decide⟩ Jn.same rfl rfl rfl (Nat.le_of_ble_eq_true rfl) dX0_serveWaiting_87 (fun H locs hP hD hS => ?_)
            refine lv_iinc (v := y1 + 1) (lv' := [(1, .int (y1 + 1)), (2, .int 1), (6, .int x5), (5, .int x4), (0, .ref (a 0)), (3, .int y3), (4, .int y4)]) hx hb dX0_serveWaiting_90 hl (k := 4) rfl rfl (by decide) rfl (fun ls hl => ?_)
            refine lv_iinc (v := y4 + 1) (lv' := [(4, .int (y4 + 1)), (1, .int (y1 + 1)), (2, .int 1), (6, .int x5), (5, .int x4), (0, .ref (a 0)), (3, .int y3)]) hx hb dX0_serveWaiting_93 hl (k := 6) rfl rfl (by decide) rfl (fun ls hl => ?_)
            refine lv_goto (tgt := 12) hx hb dX0_serveWaiting_96 (by decide) ?_
            exact ih (y1 + 1) 1 y3 (y4 + 1) V9 H locs ls hc hP hD hS (lv_sub hl [5, 1, 2, 6, 0] rfl)
        · replace hc := ite_f c6 hc
          refine lv_aload_n hx hb dX0_serveWaiting_44 rfl (lv_at hl 2 rfl) ?_
          refine lv_iload hx hb dX0_serveWaiting_45 (lv_at hl 1 rfl) ?_
          refine lv_iload hx hb dX0_serveWaiting_47 (lv_at hl 0 rfl) ?_
          obtain ⟨x10, V10, hc10, hc⟩ := b2_some hc
          refine gc_VI (n := 2) (q0 := 0) (ci := 0) (w' := FW cy a V10) hx hb hml hown hts hK hP hD hS hA hl.1 ⟨Nat.le_refl _, Nat.le_refl _⟩ (C_X0_shareOut l D cy a V x4 x5 x10 V10 hc10) gX0_serveWaiting_X0_shareOut rfl (by decide +kernel) rfl ⟨by decide, by decide⟩ Jn.same rfl rfl rfl (Nat.le_of_ble_eq_true rfl) dX0_serveWaiting_49 (fun H locs hP hD hS => ?_)
          refine lv_iload hx hb dX0_serveWaiting_52 (lv_at hl 0 rfl) ?_
          refine lv_icmp_ne (tgt := 67) hx hb dX0_serveWaiting_54 (by decide) (fun c11 => ?_) (fun c11 => ?_)
          · replace hc := ite_f c11 hc
            refine lv_aload_n hx hb dX0_serveWaiting_67 rfl (lv_at hl 2 rfl) ?_
            refine va_get (ci := 0) (v := .ref (a 4)) (C := RX0) (T := TX0) (N := 10) hx hb hts inw_X0 hown hK.1 hP 0 rfl rfl 3 (by decide) fl_22 (fun _ h9 => h9) rfl dX0_serveWaiting_68 ?_
            refine lv_iconst (v := 1) hx hb dX0_serveWaiting_71 (by decide) ?_
            refine g_iald (x := V10 4 1) hx hb hK hP 4 rfl (vp_lit (by decide)) rfl dX0_serveWaiting_72 ?_
            refine lv_iconst (v := 1) hx hb dX0_serveWaiting_73 (by decide) ?_
            refine lv_icmp_ne (tgt := 81) hx hb dX0_serveWaiting_74 (by decide) (fun c12 => ?_) (fun c12 => ?_)
            · replace hc := ite_f c12 hc
              refine lv_iconst (v := 0) hx hb dX0_serveWaiting_81 (by decide) ?_
              refine lv_istore_n (lv' := [(2, .int 0), (6, .int x5), (5, .int x4), (0, .ref (a 0)), (1, .int y1), (3, .int y3), (4, .int y4)]) hx hb dX0_serveWaiting_82 rfl hl (by decide) rfl (fun ls hl => ?_)
              refine lv_aload_n hx hb dX0_serveWaiting_83 rfl (lv_at hl 3 rfl) ?_
              refine lv_iload hx hb dX0_serveWaiting_84 (lv_at hl 6 rfl) ?_
              refine lv_iload_n hx hb dX0_serveWaiting_86 rfl (lv_at hl 4 rfl) ?_
              obtain ⟨V13, hc13, hc⟩ := b1_some hc
              refine gc_VV (n := 2) (q0 := 0) (ci := 0) (w' := FW cy a V13) hx hb hml hown hts hK hP hD hS hA hl.1 ⟨Nat.le_refl _, Nat.le_refl _⟩ (C_X0_moveRequest l D cy a V10 y4 y1 V13 hc13) gX0_serveWaiting_X0_moveRequest rfl (by decide +kernel) rfl ⟨by decide, by decide⟩ Jn.same rfl rfl rfl (Nat.le_of_ble_eq_true rfl) dX0_serveWaiting_87 (fun H locs hP hD hS => ?_)
              refine lv_iinc (v := y1 + 1) (lv' := [(1, .int (y1 + 1)), (2, .int 0), (6, .int x5), (5, .int x4), (0, .ref (a 0)), (3, .int y3), (4, .int y4)]) hx hb dX0_serveWaiting_90 hl (k := 4) rfl rfl (by decide) rfl (fun ls hl => ?_)
              refine lv_iinc (v := y4 + 1) (lv' := [(4, .int (y4 + 1)), (1, .int (y1 + 1)), (2, .int 0), (6, .int x5), (5, .int x4), (0, .ref (a 0)), (3, .int y3)]) hx hb dX0_serveWaiting_93 hl (k := 6) rfl rfl (by decide) rfl (fun ls hl => ?_)
              refine lv_goto (tgt := 12) hx hb dX0_serveWaiting_96 (by decide) ?_
              exact ih (y1 + 1) 0 y3 (y4 + 1) V13 H locs ls hc hP hD hS (lv_sub hl [5, 1, 2, 6, 0] rfl)
            · replace hc := ite_t c12 hc
              refine lv_iconst (v := 1) hx hb dX0_serveWaiting_77 (by decide) ?_
              refine lv_goto (tgt := 82) hx hb dX0_serveWaiting_78 (by decide) ?_
              refine lv_istore_n (lv' := [(2, .int 1), (6, .int x5), (5, .int x4), (0, .ref (a 0)), (1, .int y1), (3, .int y3), (4, .int y4)]) hx hb dX0_serveWaiting_82 rfl hl (by decide) rfl (fun ls hl => ?_)
              refine lv_aload_n hx hb dX0_serveWaiting_83 rfl (lv_at hl 3 rfl) ?_
              refine lv_iload hx hb dX0_serveWaiting_84 (lv_at hl 6 rfl) ?_
              refine lv_iload_n hx hb dX0_serveWaiting_86 rfl (lv_at hl 4 rfl) ?_
              obtain ⟨V14, hc14, hc⟩ := b1_some hc
              refine gc_VV (n := 2) (q0 := 0) (ci := 0) (w' := FW cy a V14) hx hb hml hown hts hK hP hD hS hA hl.1 ⟨Nat.le_refl _, Nat.le_refl _⟩ (C_X0_moveRequest l D cy a V10 y4 y1 V14 hc14) gX0_serveWaiting_X0_moveRequest rfl (by decide +kernel) rfl ⟨by decide, by decide⟩ Jn.same rfl rfl rfl (Nat.le_of_ble_eq_true rfl) dX0_serveWaiting_87 (fun H locs hP hD hS => ?_)
              refine lv_iinc (v := y1 + 1) (lv' := [(1, .int (y1 + 1)), (2, .int 1), (6, .int x5), (5, .int x4), (0, .ref (a 0)), (3, .int y3), (4, .int y4)]) hx hb dX0_serveWaiting_90 hl (k := 4) rfl rfl (by decide) rfl (fun ls hl => ?_)
              refine lv_iinc (v := y4 + 1) (lv' := [(4, .int (y4 + 1)), (1, .int (y1 + 1)), (2, .int 1), (6, .int x5), (5, .int x4), (0, .ref (a 0)), (3, .int y3)]) hx hb dX0_serveWaiting_93 hl (k := 6) rfl rfl (by decide) rfl (fun ls hl => ?_)
              refine lv_goto (tgt := 12) hx hb dX0_serveWaiting_96 (by decide) ?_
              exact ih (y1 + 1) 1 y3 (y4 + 1) V14 H locs ls hc hP hD hS (lv_sub hl [5, 1, 2, 6, 0] rfl)
          · replace hc := ite_t c11 hc
            refine lv_aload_n hx hb dX0_serveWaiting_57 rfl (lv_at hl 2 rfl) ?_
            refine lv_iload hx hb dX0_serveWaiting_58 (lv_at hl 1 rfl) ?_
            obtain ⟨x15, V15, hc15, hc⟩ := b2_some hc
            refine gc_VI (n := 1) (q0 := 0) (ci := 0) (w' := FW cy a V15) hx hb hml hown hts hK hP hD hS hA hl.1 ⟨Nat.le_refl _, Nat.le_refl _⟩ (C_X0_pourShares l D cy a V10 x4 x15 V15 hc15) gX0_serveWaiting_X0_pourShares rfl (by decide +kernel) rfl ⟨by decide, by decide⟩ Jn.same rfl rfl rfl (Nat.le_of_ble_eq_true rfl) dX0_serveWaiting_60 (fun H locs hP hD hS => ?_)
            refine lv_pop hx hb dX0_serveWaiting_63 rfl ?_
            refine lv_goto (tgt := 93) hx hb dX0_serveWaiting_64 (by decide) ?_
            refine lv_iinc (v := y4 + 1) (lv' := [(4, .int (y4 + 1)), (6, .int x5), (5, .int x4), (0, .ref (a 0)), (1, .int y1), (2, .int y2), (3, .int y3)]) hx hb dX0_serveWaiting_93 hl (k := 6) rfl rfl (by decide) rfl (fun ls hl => ?_)
            refine lv_goto (tgt := 12) hx hb dX0_serveWaiting_96 (by decide) ?_
            exact ih y1 y2 y3 (y4 + 1) V15 H locs ls hc hP hD hS (lv_sub hl [3, 4, 5, 6, 0] rfl)
  obtain ⟨H, hHe⟩ : ∃ H : Heap, H = s.heap := ⟨_, rfl⟩
  obtain ⟨locs, hLe⟩ : ∃ x : List Loc, x = [] := ⟨_, rfl⟩
  have hP : va_P D vwCl (FW cy a V) H := by rw [hHe]; exact hP
  have hS : va_S A s.heap H locs := by rw [hHe, hLe]; exact hS
  have goal0 : W p l e (RM 2 50) s m args below meth c H locs 0 0 Q (F0 m 0 ls []) := by
    refine lv_iconst (v := 0) hx hb dX0_serveWaiting_0 (by decide) ?_
    refine lv_istore_n (lv' := [(1, .int 0), (0, .ref (a 0))]) hx hb dX0_serveWaiting_1 rfl hl (by decide) rfl (fun ls hl => ?_)
    refine lv_iconst (v := 1) hx hb dX0_serveWaiting_2 (by decide) ?_
    refine lv_istore_n (lv' := [(2, .int 1), (1, .int 0), (0, .ref (a 0))]) hx hb dX0_serveWaiting_3 rfl hl (by decide) rfl (fun ls hl => ?_)
    refine lv_aload_n hx hb dX0_serveWaiting_4 rfl (lv_at hl 2 rfl) ?_
    refine va_get (ci := 0) (v := .int (V 0 2)) (C := RX0) (T := TX0) (N := 10) hx hb hts inw_X0 hown hK.1 hP 0 rfl rfl 7 (by decide) fl_40 (fun _ h9 => h9) rfl dX0_serveWaiting_5 ?_
    refine lv_istore_n (lv' := [(3, .int (V 0 2)), (2, .int 1), (1, .int 0), (0, .ref (a 0))]) hx hb dX0_serveWaiting_8 rfl hl (by decide) rfl (fun ls hl => ?_)
    refine lv_iconst (v := 0) hx hb dX0_serveWaiting_9 (by decide) ?_
    refine lv_istore (lv' := [(4, .int 0), (3, .int (V 0 2)), (2, .int 1), (1, .int 0), (0, .ref (a 0))]) hx hb dX0_serveWaiting_10 hl (by decide) rfl (fun ls hl => ?_)
    exact L12 FUEL 0 1 (V 0 2) 0 V H locs ls hc hP hD hS (lv_sub hl [4, 3, 2, 1, 0] rfl)
  rw [hHe, hLe] at goal0
  exact goal0
