set_option maxHeartbeats 4000000 in
set_option maxRecDepth 100000 in
theorem C_X4_paysBack (l : Launch) (D : va_G) (cy : Nat → ClassId) (a : Nat → Nat) (V : FV) (V' : FV) (hc : f_X4_paysBack V = some V') : ConV l yX4_paysBack wsX4_paysBack 2 43 D cy (MW cy a) [.ref (a 0)] V V' := by
  refine bodyV (cc := cX4_paysBack) (maxL := 4) (by decide +kernel) rfl (Nat.le_of_ble_eq_true rfl) ?_
  intro p e s m args below meth c A Q hx hb hml hts hown hK hP hD hA hS hend ls hl
  have hown : s.vm.findClass RX4 = some m.cls := hown
  have hP : va_P D vwCl (MW cy a V) s.heap := hP
  have hD : va_D A (MW cy a V) := hD
  have hl : lv_has ls 4 [(0, .ref (a 0))] := hl
  have hend : ∀ (H : Heap) (locs : List Loc) (pc : Nat) (ls : Array Slot) (V : FV), V = V' → va_P D vwCl (MW cy a V) H → va_D A (MW cy a V) → va_S A s.heap H locs → decode cX4_paysBack pc = .ok (.return_, 1) → W p l e (RM 2 43) s m args below meth c H locs 0 0 Q (F0 m pc ls []) := fun H locs pc ls V h1 h2 h3 h4 h5 => hend H locs pc ls V h1 h2 h3 h4 h5
  have fl_7 := hts (.fieldLink RX4 7 "NoonWellsModel" "now" "[I") (by decide +kernel)
  have inw_X4 := (by decide +kernel : ∀ w ∈ u_ws RX4 TX4 12, w ∈ wsX4_paysBack)
  have L16 : ∀ (k2 : Int32 → FV → Option (FV)) (hk2 : ∀ (y1 : Int32) (V : FV) (H : Heap) (locs : List Loc) (ls : Array Slot), k2 y1 V = some V' → va_P D vwCl (MW cy a V) H → va_D A (MW cy a V) → va_S A s.heap H locs → lv_has ls 4 [(0, .ref (a 0)), (1, .int y1)] → W p l e (RM 2 43) s m args below meth c H locs 0 0 Q (F0 m 2 ls [])) (n : Nat), ∀ (y1 y2 : Int32) (V : FV) (H : Heap) (locs : List Loc) (ls : Array Slot), f_X4_paysBack_L16 k2 n y1 y2 V = some V' → va_P D vwCl (MW cy a V) H → va_D A (MW cy a V) → va_S A s.heap H locs → lv_has ls 4 [(0, .ref (a 0)), (1, .int y1), (2, .int y2)] → W p l e (RM 2 43) s m args below meth c H locs 0 0 Q (F0 m 16 ls []) := by
    intro k2 hk2 n
    induction n with
    | zero =>
      intro y1 y2 V H locs ls hc
      cases hc
    | succ n ih =>
      intro y1 y2 V H locs ls hc hP hD hS hl
      refine lv_iload_n hx hb dX4_paysBack_16 rfl (lv_at hl 2 rfl) ?_
      refine lv_aload_n hx hb dX4_paysBack_17 rfl (lv_at hl 0 rfl) ?_
      refine va_get (ci := 4) (v := .ref (a 1)) (C := RX4) (T := TX4) (N := 12) hx hb hts inw_X4 hown hK.1 hP 0 rfl rfl 0 (by decide) fl_7 (fun _ h9 => h9) rfl dX4_paysBack_18 ?_
      refine lv_iconst (v := 3) hx hb dX4_paysBack_21 (by decide) ?_
      refine g_iald (x := V 1 3) hx hb hK hP 1 rfl (vp_lit (by decide)) rfl dX4_paysBack_22 ?_
      refine lv_icmp_ge (tgt := 101) hx hb dX4_paysBack_23 (by decide) (fun c2 => ?_) (fun c2 => ?_)
      · replace hc := ite_t c2 hc
        refine lv_iinc (v := y1 + 1) (lv' := [(1, .int (y1 + 1)), (0, .ref (a 0)), (2, .int y2)]) hx hb dX4_paysBack_101 hl (k := 1) rfl rfl (by decide) rfl (fun ls hl => ?_)
        refine lv_goto (tgt := 2) hx hb dX4_paysBack_104 (by decide) ?_
        exact hk2 (y1 + 1) V H locs ls hc hP hD hS (lv_sub hl [1, 0] rfl)
      · replace hc := ite_f c2 hc
        refine lv_aload_n hx hb dX4_paysBack_26 rfl (lv_at hl 0 rfl) ?_
        refine lv_iload_n hx hb dX4_paysBack_27 rfl (lv_at hl 2 rfl) ?_
        refine lv_iconst (v := 0) hx hb dX4_paysBack_28 (by decide) ?_
        obtain ⟨x3, hc3, hc⟩ := b1_some hc
        refine gc_VI (n := 2) (q0 := 0) (ci := 4) (w' := MW cy a V) hx hb hml hown hts hK hP hD hS hA hl.1 ⟨Nat.le_refl _, Nat.le_refl _⟩ (C_X4_of l D cy a V y2 0 x3 hc3) gX4_paysBack_X4_of rfl (by decide +kernel) rfl ⟨by decide, by decide⟩ Jn.same rfl rfl rfl (Nat.le_of_ble_eq_true rfl) dX4_paysBack_29 (fun H locs hP hD hS => ?_)
        refine lv_iload_n hx hb dX4_paysBack_32 rfl (lv_at hl 1 rfl) ?_
        refine lv_icmp_ne (tgt := 62) hx hb dX4_paysBack_33 (by decide) (fun c4 => ?_) (fun c4 => ?_)
        · replace hc := ite_f c4 hc
          refine lv_iconst (v := 0) hx hb dX4_paysBack_62 (by decide) ?_
          refine lv_istore_n (lv' := [(3, .int 0), (0, .ref (a 0)), (1, .int y1), (2, .int y2)]) hx hb dX4_paysBack_63 rfl hl (by decide) rfl (fun ls hl => ?_)
          refine lv_aload_n hx hb dX4_paysBack_64 rfl (lv_at hl 1 rfl) ?_
          refine lv_iload_n hx hb dX4_paysBack_65 rfl (lv_at hl 2 rfl) ?_
          refine lv_iconst (v := 4) hx hb dX4_paysBack_66 (by decide) ?_
          refine lv_iload_n hx hb dX4_paysBack_67 rfl (lv_at hl 0 rfl) ?_
          refine lv_ineg hx hb dX4_paysBack_68 ?_
          obtain ⟨V5, hc5, hc⟩ := b1_some hc
          refine gc_VV (n := 3) (q0 := 0) (ci := 4) (w' := MW cy a V5) hx hb hml hown hts hK hP hD hS hA hl.1 ⟨Nat.le_refl _, Nat.le_refl _⟩ (C_X4_adds l D cy a V y1 4 (-0) V5 hc5) gX4_paysBack_X4_adds rfl (by decide +kernel) rfl ⟨by decide, by decide⟩ Jn.same rfl rfl rfl (Nat.le_of_ble_eq_true rfl) dX4_paysBack_69 (fun H locs hP hD hS => ?_)
          refine lv_aload_n hx hb dX4_paysBack_72 rfl (lv_at hl 1 rfl) ?_
          refine lv_iload_n hx hb dX4_paysBack_73 rfl (lv_at hl 3 rfl) ?_
          refine lv_iconst (v := 4) hx hb dX4_paysBack_74 (by decide) ?_
          refine lv_iload_n hx hb dX4_paysBack_75 rfl (lv_at hl 0 rfl) ?_
          obtain ⟨V6, hc6, hc⟩ := b1_some hc
          refine gc_VV (n := 3) (q0 := 0) (ci := 4) (w' := MW cy a V6) hx hb hml hown hts hK hP hD hS hA hl.1 ⟨Nat.le_refl _, Nat.le_refl _⟩ (C_X4_adds l D cy a V5 y2 4 0 V6 hc6) gX4_paysBack_X4_adds rfl (by decide +kernel) rfl ⟨by decide, by decide⟩ Jn.same rfl rfl rfl (Nat.le_of_ble_eq_true rfl) dX4_paysBack_76 (fun H locs hP hD hS => ?_)
          refine lv_aload_n hx hb dX4_paysBack_79 rfl (lv_at hl 1 rfl) ?_
          refine lv_iload_n hx hb dX4_paysBack_80 rfl (lv_at hl 3 rfl) ?_
          refine lv_iconst (v := 5) hx hb dX4_paysBack_81 (by decide) ?_
          refine lv_iload_n hx hb dX4_paysBack_82 rfl (lv_at hl 0 rfl) ?_
          refine lv_ineg hx hb dX4_paysBack_83 ?_
          obtain ⟨V7, hc7, hc⟩ := b1_some hc
          refine gc_VV (n := 3) (q0 := 0) (ci := 4) (w' := MW cy a V7) hx hb hml hown hts hK hP hD hS hA hl.1 ⟨Nat.le_refl _, Nat.le_refl _⟩ (C_X4_adds l D cy a V6 y2 5 (-0) V7 hc7) gX4_paysBack_X4_adds rfl (by decide +kernel) rfl ⟨by decide, by decide⟩ Jn.same rfl rfl rfl (Nat.le_of_ble_eq_true rfl) dX4_paysBack_84 (fun H locs hP hD hS => ?_)
          refine lv_aload_n hx hb dX4_paysBack_87 rfl (lv_at hl 1 rfl) ?_
          refine lv_iload_n hx hb dX4_paysBack_88 rfl (lv_at hl 3 rfl) ?_
          refine lv_bipush (v := 11) hx hb dX4_paysBack_89 (by decide +kernel) ?_
          refine lv_iload_n hx hb dX4_paysBack_91 rfl (lv_at hl 0 rfl) ?_
          obtain ⟨V8, hc8, hc⟩ := b1_some hc
          refine gc_VV (n := 3) (q0 := 0) (ci := 4) (w' := MW cy a V8) hx hb hml hown hts hK hP hD hS hA hl.1 ⟨Nat.le_refl _, Nat.le_refl _⟩ (C_X4_adds l D cy a V7 y2 11 0 V8 hc8) gX4_paysBack_X4_adds rfl (by decide +kernel) rfl ⟨by decide, by decide⟩ Jn.same rfl rfl rfl (Nat.le_of_ble_eq_true rfl) dX4_paysBack_92 (fun H locs hP hD hS => ?_)
          refine lv_iinc (v := y2 + 1) (lv' := [(2, .int (y2 + 1)), (3, .int 0), (0, .ref (a 0)), (1, .int y1)]) hx hb dX4_paysBack_95 hl (k := 3) rfl rfl (by decide) rfl (fun ls hl => ?_)
          refine lv_goto (tgt := 16) hx hb dX4_paysBack_98 (by decide) ?_
          exact ih y1 (y2 + 1) V8 H locs ls hc hP hD hS (lv_sub hl [2, 3, 0] rfl)
        · replace hc := ite_t c4 hc
          refine lv_aload_n hx hb dX4_paysBack_36 rfl (lv_at hl 0 rfl) ?_
          refine lv_iload_n hx hb dX4_paysBack_37 rfl (lv_at hl 2 rfl) ?_
          refine lv_iconst (v := 5) hx hb dX4_paysBack_38 (by decide) ?_
          obtain ⟨x9, hc9, hc⟩ := b1_some hc
          refine gc_VI (n := 2) (q0 := 0) (ci := 4) (w' := MW cy a V) hx hb hml hown hts hK hP hD hS hA hl.1 ⟨Nat.le_refl _, Nat.le_refl _⟩ (C_X4_of l D cy a V y2 5 x9 hc9) gX4_paysBack_X4_of rfl (by decide +kernel) rfl ⟨by decide, by decide⟩ Jn.same rfl rfl rfl (Nat.le_of_ble_eq_true rfl) dX4_paysBack_39 (fun H locs hP hD hS => ?_)
          refine lv_aload_n hx hb dX4_paysBack_42 rfl (lv_at hl 0 rfl) ?_
          refine lv_iload_n hx hb dX4_paysBack_43 rfl (lv_at hl 1 rfl) ?_
          refine lv_iconst (v := 4) hx hb dX4_paysBack_44 (by decide) ?_
          obtain ⟨x10, hc10, hc⟩ := b1_some hc
          refine gc_VI (n := 2) (q0 := 0) (ci := 4) (w' := MW cy a V) hx hb hml hown hts hK hP hD hS hA hl.1 ⟨Nat.le_refl _, Nat.le_refl _⟩ (C_X4_of l D cy a V y1 4 x10 hc10) gX4_paysBack_X4_of rfl (by decide +kernel) rfl ⟨by decide, by decide⟩ Jn.same rfl rfl rfl (Nat.le_of_ble_eq_true rfl) dX4_paysBack_45 (fun H locs hP hD hS => ?_)
          refine lv_aload_n hx hb dX4_paysBack_48 rfl (lv_at hl 0 rfl) ?_
          refine lv_iload_n hx hb dX4_paysBack_49 rfl (lv_at hl 2 rfl) ?_
          obtain ⟨x11, hc11, hc⟩ := b1_some hc
          refine gc_VI (n := 1) (q0 := 0) (ci := 4) (w' := MW cy a V) hx hb hml hown hts hK hP hD hS hA hl.1 ⟨Nat.le_refl _, Nat.le_refl _⟩ (C_X4_room l D cy a V y2 x11 hc11) gX4_paysBack_X4_room rfl (by decide +kernel) rfl ⟨by decide, by decide⟩ Jn.same rfl rfl rfl (Nat.le_of_ble_eq_true rfl) dX4_paysBack_50 (fun H locs hP hD hS => ?_)
          obtain ⟨x12, hc12, hc⟩ := b1_some hc
          refine gc_SI (n := 2) (w' := MW cy a V) hx hb hml hown hts hK hP hD hS hA hl.1 ⟨Nat.le_refl _, Nat.le_refl _⟩ (C_X4_least l D cy x10 x11 x12 hc12) gX4_paysBack_X4_least rfl (by decide +kernel) rfl ⟨by decide, by decide⟩ Jn.none rfl (Nat.le_of_ble_eq_true rfl) dX4_paysBack_53 (fun H locs hP hD hS => ?_)
          obtain ⟨x13, hc13, hc⟩ := b1_some hc
          refine gc_SI (n := 2) (w' := MW cy a V) hx hb hml hown hts hK hP hD hS hA hl.1 ⟨Nat.le_refl _, Nat.le_refl _⟩ (C_X4_least l D cy x9 x12 x13 hc13) gX4_paysBack_X4_least rfl (by decide +kernel) rfl ⟨by decide, by decide⟩ Jn.none rfl (Nat.le_of_ble_eq_true rfl) dX4_paysBack_56 (fun H locs hP hD hS => ?_)
          refine lv_goto (tgt := 63) hx hb dX4_paysBack_59 (by decide) ?_
          refine lv_istore_n (lv' := [(3, .int x13), (0, .ref (a 0)), (1, .int y1), (2, .int y2)]) hx hb dX4_paysBack_63 rfl hl (by decide) rfl (fun ls hl => ?_)
          refine lv_aload_n hx hb dX4_paysBack_64 rfl (lv_at hl 1 rfl) ?_
          refine lv_iload_n hx hb dX4_paysBack_65 rfl (lv_at hl 2 rfl) ?_
          refine lv_iconst (v := 4) hx hb dX4_paysBack_66 (by decide) ?_
          refine lv_iload_n hx hb dX4_paysBack_67 rfl (lv_at hl 0 rfl) ?_
          refine lv_ineg hx hb dX4_paysBack_68 ?_
          obtain ⟨V14, hc14, hc⟩ := b1_some hc
          refine gc_VV (n := 3) (q0 := 0) (ci := 4) (w' := MW cy a V14) hx hb hml hown hts hK hP hD hS hA hl.1 ⟨Nat.le_refl _, Nat.le_refl _⟩ (C_X4_adds l D cy a V y1 4 (-x13) V14 hc14) gX4_paysBack_X4_adds rfl (by decide +kernel) rfl ⟨by decide, by decide⟩ Jn.same rfl rfl rfl (Nat.le_of_ble_eq_true rfl) dX4_paysBack_69 (fun H locs hP hD hS => ?_)
          refine lv_aload_n hx hb dX4_paysBack_72 rfl (lv_at hl 1 rfl) ?_
          refine lv_iload_n hx hb dX4_paysBack_73 rfl (lv_at hl 3 rfl) ?_
          refine lv_iconst (v := 4) hx hb dX4_paysBack_74 (by decide) ?_
          refine lv_iload_n hx hb dX4_paysBack_75 rfl (lv_at hl 0 rfl) ?_
          obtain ⟨V15, hc15, hc⟩ := b1_some hc
          refine gc_VV (n := 3) (q0 := 0) (ci := 4) (w' := MW cy a V15) hx hb hml hown hts hK hP hD hS hA hl.1 ⟨Nat.le_refl _, Nat.le_refl _⟩ (C_X4_adds l D cy a V14 y2 4 x13 V15 hc15) gX4_paysBack_X4_adds rfl (by decide +kernel) rfl ⟨by decide, by decide⟩ Jn.same rfl rfl rfl (Nat.le_of_ble_eq_true rfl) dX4_paysBack_76 (fun H locs hP hD hS => ?_)
          refine lv_aload_n hx hb dX4_paysBack_79 rfl (lv_at hl 1 rfl) ?_
          refine lv_iload_n hx hb dX4_paysBack_80 rfl (lv_at hl 3 rfl) ?_
          refine lv_iconst (v := 5) hx hb dX4_paysBack_81 (by decide) ?_
          refine lv_iload_n hx hb dX4_paysBack_82 rfl (lv_at hl 0 rfl) ?_
          refine lv_ineg hx hb dX4_paysBack_83 ?_
          obtain ⟨V16, hc16, hc⟩ := b1_some hc
          refine gc_VV (n := 3) (q0 := 0) (ci := 4) (w' := MW cy a V16) hx hb hml hown hts hK hP hD hS hA hl.1 ⟨Nat.le_refl _, Nat.le_refl _⟩ (C_X4_adds l D cy a V15 y2 5 (-x13) V16 hc16) gX4_paysBack_X4_adds rfl (by decide +kernel) rfl ⟨by decide, by decide⟩ Jn.same rfl rfl rfl (Nat.le_of_ble_eq_true rfl) dX4_paysBack_84 (fun H locs hP hD hS => ?_)
          refine lv_aload_n hx hb dX4_paysBack_87 rfl (lv_at hl 1 rfl) ?_
          refine lv_iload_n hx hb dX4_paysBack_88 rfl (lv_at hl 3 rfl) ?_
          refine lv_bipush (v := 11) hx hb dX4_paysBack_89 (by decide +kernel) ?_
          refine lv_iload_n hx hb dX4_paysBack_91 rfl (lv_at hl 0 rfl) ?_
          obtain ⟨V17, hc17, hc⟩ := b1_some hc
          refine gc_VV (n := 3) (q0 := 0) (ci := 4) (w' := MW cy a V17) hx hb hml hown hts hK hP hD hS hA hl.1 ⟨Nat.le_refl _, Nat.le_refl _⟩ (C_X4_adds l D cy a V16 y2 11 x13 V17 hc17) gX4_paysBack_X4_adds rfl (by decide +kernel) rfl ⟨by decide, by decide⟩ Jn.same rfl rfl rfl (Nat.le_of_ble_eq_true rfl) dX4_paysBack_92 (fun H locs hP hD hS => ?_)
          refine lv_iinc (v := y2 + 1) (lv' := [(2, .int (y2 + 1)), (3, .int x13), (0, .ref (a 0)), (1, .int y1)]) hx hb dX4_paysBack_95 hl (k := 3) rfl rfl (by decide) rfl (fun ls hl => ?_)
          refine lv_goto (tgt := 16) hx hb dX4_paysBack_98 (by decide) ?_
          exact ih y1 (y2 + 1) V17 H locs ls hc hP hD hS (lv_sub hl [2, 3, 0] rfl)
  have L2 : ∀ (n : Nat), ∀ (y1 : Int32) (V : FV) (H : Heap) (locs : List Loc) (ls : Array Slot), f_X4_paysBack_L2 n y1 V = some V' → va_P D vwCl (MW cy a V) H → va_D A (MW cy a V) → va_S A s.heap H locs → lv_has ls 4 [(0, .ref (a 0)), (1, .int y1)] → W p l e (RM 2 43) s m args below meth c H locs 0 0 Q (F0 m 2 ls []) := by
    intro n
    induction n with
    | zero =>
      intro y1 V H locs ls hc
      cases hc
    | succ n ih =>
      intro y1 V H locs ls hc hP hD hS hl
      refine lv_iload_n hx hb dX4_paysBack_2 rfl (lv_at hl 1 rfl) ?_
      refine lv_aload_n hx hb dX4_paysBack_3 rfl (lv_at hl 0 rfl) ?_
      refine va_get (ci := 4) (v := .ref (a 1)) (C := RX4) (T := TX4) (N := 12) hx hb hts inw_X4 hown hK.1 hP 0 rfl rfl 0 (by decide) fl_7 (fun _ h9 => h9) rfl dX4_paysBack_4 ?_
      refine lv_iconst (v := 3) hx hb dX4_paysBack_7 (by decide) ?_
      refine g_iald (x := V 1 3) hx hb hK hP 1 rfl (vp_lit (by decide)) rfl dX4_paysBack_8 ?_
      refine lv_icmp_ge (tgt := 107) hx hb dX4_paysBack_9 (by decide) (fun c1 => ?_) (fun c1 => ?_)
      · replace hc := ite_t c1 hc
        exact hend H locs _ _ _ (some_one hc) hP hD hS dX4_paysBack_107
      · replace hc := ite_f c1 hc
        refine lv_iload_n hx hb dX4_paysBack_12 rfl (lv_at hl 1 rfl) ?_
        refine lv_iconst (v := 1) hx hb dX4_paysBack_13 (by decide) ?_
        refine lv_iadd hx hb dX4_paysBack_14 ?_
        refine lv_istore_n (lv' := [(2, .int (y1 + 1)), (0, .ref (a 0)), (1, .int y1)]) hx hb dX4_paysBack_15 rfl hl (by decide) rfl (fun ls hl => ?_)
        exact L16 (f_X4_paysBack_L2 n) ih FUEL y1 (y1 + 1) V H locs ls hc hP hD hS (lv_sub hl [1, 2, 0] rfl)
  obtain ⟨H, hHe⟩ : ∃ H : Heap, H = s.heap := ⟨_, rfl⟩
  obtain ⟨locs, hLe⟩ : ∃ x : List Loc, x = [] := ⟨_, rfl⟩
  have hP : va_P D vwCl (MW cy a V) H := by rw [hHe]; exact hP
  have hS : va_S A s.heap H locs := by rw [hHe, hLe]; exact hS
  have goal0 : W p l e (RM 2 43) s m args below meth c H locs 0 0 Q (F0 m 0 ls []) := by
    refine lv_iconst (v := 0) hx hb dX4_paysBack_0 (by decide) ?_
    refine lv_istore_n (lv' := [(1, .int 0), (0, .ref (a 0))]) hx hb dX4_paysBack_1 rfl hl (by decide) rfl (fun ls hl => ?_)
    exact L2 FUEL 0 V H locs ls hc hP hD hS (lv_sub hl [1, 0] rfl)
  rw [hHe, hLe] at goal0
  exact goal0
set_option maxHeartbeats 4000000 in
set_option maxRecDepth 100000 in
theorem C_X4_ticks (l : Launch) (D : va_G) (cy : Nat → ClassId) (a : Nat → Nat) (V : FV) (V' : FV) (hc : f_X4_ticks V = some V') : ConV l yX4_ticks wsX4_ticks 4 95 D cy (MW cy a) [.ref (a 0)] V V' := by
  refine bodyV (cc := cX4_ticks) (maxL := 2) (by decide +kernel) rfl (Nat.le_of_ble_eq_true rfl) ?_
  intro p e s m args below meth c A Q hx hb hml hts hown hK hP hD hA hS hend ls hl
  have hown : s.vm.findClass RX4 = some m.cls := hown
  have hP : va_P D vwCl (MW cy a V) s.heap := hP
  have hD : va_D A (MW cy a V) := hD
  have hl : lv_has ls 2 [(0, .ref (a 0))] := hl
  have hend : ∀ (H : Heap) (locs : List Loc) (pc : Nat) (ls : Array Slot) (V : FV), V = V' → va_P D vwCl (MW cy a V) H → va_D A (MW cy a V) → va_S A s.heap H locs → decode cX4_ticks pc = .ok (.return_, 1) → W p l e (RM 4 95) s m args below meth c H locs 0 0 Q (F0 m pc ls []) := fun H locs pc ls V h1 h2 h3 h4 h5 => hend H locs pc ls V h1 h2 h3 h4 h5
  have fl_7 := hts (.fieldLink RX4 7 "NoonWellsModel" "now" "[I") (by decide +kernel)
  have inw_X4 := (by decide +kernel : ∀ w ∈ u_ws RX4 TX4 12, w ∈ wsX4_ticks)
  obtain ⟨H, hHe⟩ : ∃ H : Heap, H = s.heap := ⟨_, rfl⟩
  obtain ⟨locs, hLe⟩ : ∃ x : List Loc, x = [] := ⟨_, rfl⟩
  have hP : va_P D vwCl (MW cy a V) H := by rw [hHe]; exact hP
  have hS : va_S A s.heap H locs := by rw [hHe, hLe]; exact hS
  have goal0 : W p l e (RM 4 95) s m args below meth c H locs 0 0 Q (F0 m 0 ls []) := by
    refine lv_aload_n hx hb dX4_ticks_0 rfl (lv_at hl 0 rfl) ?_
    refine va_get (ci := 4) (v := .ref (a 1)) (C := RX4) (T := TX4) (N := 12) hx hb hts inw_X4 hown hK.1 hP 0 rfl rfl 0 (by decide) fl_7 (fun _ h9 => h9) rfl dX4_ticks_1 ?_
    refine lv_iconst (v := 0) hx hb dX4_ticks_4 (by decide) ?_
    refine lv_dup2_11 hx hb dX4_ticks_5 rfl rfl ?_
    refine g_iald (x := V 1 0) hx hb hK hP 1 rfl (vp_lit (by decide)) rfl dX4_ticks_6 ?_
    refine lv_iconst (v := 1) hx hb dX4_ticks_7 (by decide) ?_
    refine lv_iadd hx hb dX4_ticks_8 ?_
    obtain ⟨V1, eV1, hc⟩ := lt1_some hc
    refine g_iast (w' := MW cy a V1) hx hb hK hP hD hS 1 rfl (vp_lit (by decide)) (by rw [← eV1]; rfl) dX4_ticks_9 (fun H locs hP hD hS => ?_)
    refine lv_aload_n hx hb dX4_ticks_10 rfl (lv_at hl 0 rfl) ?_
    obtain ⟨V2, hc2, hc⟩ := b1_some hc
    refine gc_VV (n := 0) (q0 := 0) (ci := 4) (w' := MW cy a V2) hx hb hml hown hts hK hP hD hS hA hl.1 ⟨Nat.le_refl _, Nat.le_refl _⟩ (C_X4_flows l D cy a V1 V2 hc2) gX4_ticks_X4_flows rfl (by decide +kernel) rfl ⟨by decide, by decide⟩ Jn.same rfl rfl rfl (Nat.le_of_ble_eq_true rfl) dX4_ticks_11 (fun H locs hP hD hS => ?_)
    refine lv_aload_n hx hb dX4_ticks_14 rfl (lv_at hl 0 rfl) ?_
    refine va_get (ci := 4) (v := .ref (a 1)) (C := RX4) (T := TX4) (N := 12) hx hb hts inw_X4 hown hK.1 hP 0 rfl rfl 0 (by decide) fl_7 (fun _ h9 => h9) rfl dX4_ticks_15 ?_
    refine lv_iconst (v := 0) hx hb dX4_ticks_18 (by decide) ?_
    refine g_iald (x := V2 1 0) hx hb hK hP 1 rfl (vp_lit (by decide)) rfl dX4_ticks_19 ?_
    refine lv_aload_n hx hb dX4_ticks_20 rfl (lv_at hl 0 rfl) ?_
    refine va_get (ci := 4) (v := .ref (a 1)) (C := RX4) (T := TX4) (N := 12) hx hb hts inw_X4 hown hK.1 hP 0 rfl rfl 0 (by decide) fl_7 (fun _ h9 => h9) rfl dX4_ticks_21 ?_
    refine lv_iconst (v := 1) hx hb dX4_ticks_24 (by decide) ?_
    refine g_iald (x := V2 1 1) hx hb hK hP 1 rfl (vp_lit (by decide)) rfl dX4_ticks_25 ?_
    obtain ⟨hz3, hc⟩ := nz_some hc
    refine lv_irem hx hb dX4_ticks_26 hz3 ?_
    refine lv_istore_n (lv' := [(1, .int ((V2 1 0) - (V2 1 0) / (V2 1 1) * (V2 1 1))), (0, .ref (a 0))]) hx hb dX4_ticks_27 rfl hl (by decide) rfl (fun ls hl => ?_)
    refine lv_iload_n hx hb dX4_ticks_28 rfl (lv_at hl 0 rfl) ?_
    refine lv_if_ne (tgt := 40) hx hb dX4_ticks_29 (by decide) (fun c4 => ?_) (fun c4 => ?_)
    · replace hc := ite_f c4 hc
      refine lv_iload_n hx hb dX4_ticks_40 rfl (lv_at hl 0 rfl) ?_
      refine lv_aload_n hx hb dX4_ticks_41 rfl (lv_at hl 1 rfl) ?_
      refine va_get (ci := 4) (v := .ref (a 1)) (C := RX4) (T := TX4) (N := 12) hx hb hts inw_X4 hown hK.1 hP 0 rfl rfl 0 (by decide) fl_7 (fun _ h9 => h9) rfl dX4_ticks_42 ?_
      refine lv_iconst (v := 1) hx hb dX4_ticks_45 (by decide) ?_
      refine g_iald (x := V2 1 1) hx hb hK hP 1 rfl (vp_lit (by decide)) rfl dX4_ticks_46 ?_
      refine lv_iconst (v := 2) hx hb dX4_ticks_47 (by decide) ?_
      refine lv_idiv hx hb dX4_ticks_48 (by decide) ?_
      refine lv_icmp_ne (tgt := 56) hx hb dX4_ticks_49 (by decide) (fun c5 => ?_) (fun c5 => ?_)
      · replace hc := ite_f c5 hc
        refine lv_aload_n hx hb dX4_ticks_56 rfl (lv_at hl 1 rfl) ?_
        obtain ⟨V6, hc6, hc⟩ := b1_some hc
        refine gc_VV (n := 0) (q0 := 0) (ci := 4) (w' := MW cy a V6) hx hb hml hown hts hK hP hD hS hA hl.1 ⟨Nat.le_refl _, Nat.le_refl _⟩ (C_X4_looks l D cy a V2 V6 hc6) gX4_ticks_X4_looks rfl (by decide +kernel) rfl ⟨by decide, by decide⟩ Jn.same rfl rfl rfl (Nat.le_of_ble_eq_true rfl) dX4_ticks_57 (fun H locs hP hD hS => ?_)
        exact hend H locs _ _ _ (some_one hc) hP hD hS dX4_ticks_60
      · replace hc := ite_t c5 hc
        refine lv_aload_n hx hb dX4_ticks_52 rfl (lv_at hl 1 rfl) ?_
        obtain ⟨V7, hc7, hc⟩ := b1_some hc
        refine gc_VV (n := 0) (q0 := 0) (ci := 4) (w' := MW cy a V7) hx hb hml hown hts hK hP hD hS hA hl.1 ⟨Nat.le_refl _, Nat.le_refl _⟩ (C_X4_paysBack l D cy a V2 V7 hc7) gX4_ticks_X4_paysBack rfl (by decide +kernel) rfl ⟨by decide, by decide⟩ Jn.same rfl rfl rfl (Nat.le_of_ble_eq_true rfl) dX4_ticks_53 (fun H locs hP hD hS => ?_)
        refine lv_aload_n hx hb dX4_ticks_56 rfl (lv_at hl 1 rfl) ?_
        obtain ⟨V8, hc8, hc⟩ := b1_some hc
        refine gc_VV (n := 0) (q0 := 0) (ci := 4) (w' := MW cy a V8) hx hb hml hown hts hK hP hD hS hA hl.1 ⟨Nat.le_refl _, Nat.le_refl _⟩ (C_X4_looks l D cy a V7 V8 hc8) gX4_ticks_X4_looks rfl (by decide +kernel) rfl ⟨by decide, by decide⟩ Jn.same rfl rfl rfl (Nat.le_of_ble_eq_true rfl) dX4_ticks_57 (fun H locs hP hD hS => ?_)
        exact hend H locs _ _ _ (some_one hc) hP hD hS dX4_ticks_60
    · replace hc := ite_t c4 hc
      refine lv_aload_n hx hb dX4_ticks_32 rfl (lv_at hl 1 rfl) ?_
      obtain ⟨x9, V9, hc9, hc⟩ := b2_some hc
      refine gc_VI (n := 0) (q0 := 0) (ci := 4) (w' := MW cy a V9) hx hb hml hown hts hK hP hD hS hA hl.1 ⟨Nat.le_refl _, Nat.le_refl _⟩ (C_X4_lends l D cy a V2 x9 V9 hc9) gX4_ticks_X4_lends rfl (by decide +kernel) rfl ⟨by decide, by decide⟩ Jn.same rfl rfl rfl (Nat.le_of_ble_eq_true rfl) dX4_ticks_33 (fun H locs hP hD hS => ?_)
      refine lv_pop hx hb dX4_ticks_36 rfl ?_
      refine lv_goto (tgt := 56) hx hb dX4_ticks_37 (by decide) ?_
      refine lv_aload_n hx hb dX4_ticks_56 rfl (lv_at hl 1 rfl) ?_
      obtain ⟨V10, hc10, hc⟩ := b1_some hc
      refine gc_VV (n := 0) (q0 := 0) (ci := 4) (w' := MW cy a V10) hx hb hml hown hts hK hP hD hS hA hl.1 ⟨Nat.le_refl _, Nat.le_refl _⟩ (C_X4_looks l D cy a V9 V10 hc10) gX4_ticks_X4_looks rfl (by decide +kernel) rfl ⟨by decide, by decide⟩ Jn.same rfl rfl rfl (Nat.le_of_ble_eq_true rfl) dX4_ticks_57 (fun H locs hP hD hS => ?_)
      exact hend H locs _ _ _ (some_one hc) hP hD hS dX4_ticks_60
  rw [hHe, hLe] at goal0
  exact goal0
set_option maxHeartbeats 4000000 in
set_option maxRecDepth 100000 in
theorem C_X4_passes (l : Launch) (D : va_G) (cy : Nat → ClassId) (a : Nat → Nat) (V : FV) (p1 : Int32) (r : Int32) (V' : FV) (hc : f_X4_passes V p1 = some (r, V')) : ConI l yX4_passes wsX4_passes 5 116 D cy (MW cy a) [.ref (a 0), .int p1] V V' r := by
  refine bodyI (cc := cX4_passes) (maxL := 4) (ty := .int) (by decide +kernel) rfl (Nat.le_of_ble_eq_true rfl) ?_
  intro p e s m args below meth c A Q hx hb hml hts hown hK hP hD hA hS hend ls hl
  have hown : s.vm.findClass RX4 = some m.cls := hown
  have hP : va_P D vwCl (MW cy a V) s.heap := hP
  have hD : va_D A (MW cy a V) := hD
  have hl : lv_has ls 4 [(0, .ref (a 0)), (1, .int p1)] := hl
  have hend : ∀ (H : Heap) (locs : List Loc) (pc : Nat) (ls : Array Slot) (v : Int32) (V : FV), v = r → V = V' → narrow .int (.int v) = .int v → va_P D vwCl (MW cy a V) H → va_D A (MW cy a V) → va_S A s.heap H locs → decode cX4_passes pc = .ok (.ireturn, 1) → W p l e (RM 5 116) s m args below meth c H locs 0 0 Q (F0 m pc ls [.int v]) := fun H locs pc ls v V h1 h2 h3 h4 h5 h6 h7 => hend H locs pc ls v V h1 h2 h3 h4 h5 h6 h7
  have fl_7 := hts (.fieldLink RX4 7 "NoonWellsModel" "now" "[I") (by decide +kernel)
  have inw_X4 := (by decide +kernel : ∀ w ∈ u_ws RX4 TX4 12, w ∈ wsX4_passes)
  have L39 : ∀ (n : Nat), ∀ (y1 y2 y3 : Int32) (V : FV) (H : Heap) (locs : List Loc) (ls : Array Slot), f_X4_passes_L39 n y1 y2 y3 V = some (r, V') → va_P D vwCl (MW cy a V) H → va_D A (MW cy a V) → va_S A s.heap H locs → lv_has ls 4 [(0, .ref (a 0)), (1, .int y1), (2, .int y2), (3, .int y3)] → W p l e (RM 5 116) s m args below meth c H locs 0 0 Q (F0 m 39 ls []) := by
    intro n
    induction n with
    | zero =>
      intro y1 y2 y3 V H locs ls hc
      cases hc
    | succ n ih =>
      intro y1 y2 y3 V H locs ls hc hP hD hS hl
      refine lv_iload_n hx hb dX4_passes_39 rfl (lv_at hl 3 rfl) ?_
      refine lv_iload_n hx hb dX4_passes_40 rfl (lv_at hl 1 rfl) ?_
      refine lv_icmp_ge (tgt := 54) hx hb dX4_passes_41 (by decide) (fun c4 => ?_) (fun c4 => ?_)
      · replace hc := ite_t c4 hc
        refine lv_aload_n hx hb dX4_passes_54 rfl (lv_at hl 0 rfl) ?_
        refine va_get (ci := 4) (v := .ref (a 1)) (C := RX4) (T := TX4) (N := 12) hx hb hts inw_X4 hown hK.1 hP 0 rfl rfl 0 (by decide) fl_7 (fun _ h9 => h9) rfl dX4_passes_55 ?_
        refine lv_bipush (v := 7) hx hb dX4_passes_58 (by decide +kernel) ?_
        refine g_iald (x := V 1 7) hx hb hK hP 1 rfl (vp_lit (by decide)) rfl dX4_passes_60 ?_
        refine lv_iload_n hx hb dX4_passes_61 rfl (lv_at hl 2 rfl) ?_
        refine lv_isub hx hb dX4_passes_62 ?_
        exact hend H locs _ _ _ _ (some_fst hc) (some_snd hc) rfl hP hD hS dX4_passes_63
      · replace hc := ite_f c4 hc
        refine lv_aload_n hx hb dX4_passes_44 rfl (lv_at hl 0 rfl) ?_
        obtain ⟨V5, hc5, hc⟩ := b1_some hc
        refine gc_VV (n := 0) (q0 := 0) (ci := 4) (w' := MW cy a V5) hx hb hml hown hts hK hP hD hS hA hl.1 ⟨Nat.le_refl _, Nat.le_refl _⟩ (C_X4_ticks l D cy a V V5 hc5) gX4_passes_X4_ticks rfl (by decide +kernel) rfl ⟨by decide, by decide⟩ Jn.same rfl rfl rfl (Nat.le_of_ble_eq_true rfl) dX4_passes_45 (fun H locs hP hD hS => ?_)
        refine lv_iinc (v := y3 + 1) (lv' := [(3, .int (y3 + 1)), (0, .ref (a 0)), (1, .int y1), (2, .int y2)]) hx hb dX4_passes_48 hl (k := 3) rfl rfl (by decide) rfl (fun ls hl => ?_)
        refine lv_goto (tgt := 39) hx hb dX4_passes_51 (by decide) ?_
        exact ih y1 y2 (y3 + 1) V5 H locs ls hc hP hD hS (lv_sub hl [1, 2, 3, 0] rfl)
  obtain ⟨H, hHe⟩ : ∃ H : Heap, H = s.heap := ⟨_, rfl⟩
  obtain ⟨locs, hLe⟩ : ∃ x : List Loc, x = [] := ⟨_, rfl⟩
  have hP : va_P D vwCl (MW cy a V) H := by rw [hHe]; exact hP
  have hS : va_S A s.heap H locs := by rw [hHe, hLe]; exact hS
  have goal0 : W p l e (RM 5 116) s m args below meth c H locs 0 0 Q (F0 m 0 ls []) := by
    refine lv_iload_n hx hb dX4_passes_0 rfl (lv_at hl 1 rfl) ?_
    refine lv_iconst (v := 1) hx hb dX4_passes_1 (by decide) ?_
    refine lv_sipush (v := 200) hx hb dX4_passes_2 (by decide +kernel) ?_
    obtain ⟨x1, hc1, hc⟩ := b1_some hc
    refine gc_SI (n := 3) (w' := MW cy a V) hx hb hml hown hts hK hP hD hS hA hl.1 ⟨Nat.le_refl _, Nat.le_refl _⟩ (C_X4_in l D cy p1 1 200 x1 hc1) gX4_passes_X4_in rfl (by decide +kernel) rfl ⟨by decide, by decide⟩ Jn.none rfl (Nat.le_of_ble_eq_true rfl) dX4_passes_5 (fun H locs hP hD hS => ?_)
    refine lv_if_ne (tgt := 13) hx hb dX4_passes_8 (by decide) (fun c2 => ?_) (fun c2 => ?_)
    · replace hc := ite_f c2 hc
      refine lv_aload_n hx hb dX4_passes_13 rfl (lv_at hl 0 rfl) ?_
      refine va_get (ci := 4) (v := .ref (a 1)) (C := RX4) (T := TX4) (N := 12) hx hb hts inw_X4 hown hK.1 hP 0 rfl rfl 0 (by decide) fl_7 (fun _ h9 => h9) rfl dX4_passes_14 ?_
      refine lv_iconst (v := 0) hx hb dX4_passes_17 (by decide) ?_
      refine g_iald (x := V 1 0) hx hb hK hP 1 rfl (vp_lit (by decide)) rfl dX4_passes_18 ?_
      refine lv_iload_n hx hb dX4_passes_19 rfl (lv_at hl 1 rfl) ?_
      refine lv_iadd hx hb dX4_passes_20 ?_
      refine lv_ldc (v := 50000) hx hb hown (hts (.constant RX4 118 50000) (by decide +kernel)) dX4_passes_21 ?_
      refine lv_icmp_le (tgt := 29) hx hb dX4_passes_23 (by decide) (fun c3 => ?_) (fun c3 => ?_)
      · replace hc := ite_t c3 hc
        refine lv_aload_n hx hb dX4_passes_29 rfl (lv_at hl 0 rfl) ?_
        refine va_get (ci := 4) (v := .ref (a 1)) (C := RX4) (T := TX4) (N := 12) hx hb hts inw_X4 hown hK.1 hP 0 rfl rfl 0 (by decide) fl_7 (fun _ h9 => h9) rfl dX4_passes_30 ?_
        refine lv_bipush (v := 7) hx hb dX4_passes_33 (by decide +kernel) ?_
        refine g_iald (x := V 1 7) hx hb hK hP 1 rfl (vp_lit (by decide)) rfl dX4_passes_35 ?_
        refine lv_istore_n (lv' := [(2, .int (V 1 7)), (0, .ref (a 0)), (1, .int p1)]) hx hb dX4_passes_36 rfl hl (by decide) rfl (fun ls hl => ?_)
        refine lv_iconst (v := 0) hx hb dX4_passes_37 (by decide) ?_
        refine lv_istore_n (lv' := [(3, .int 0), (2, .int (V 1 7)), (0, .ref (a 0)), (1, .int p1)]) hx hb dX4_passes_38 rfl hl (by decide) rfl (fun ls hl => ?_)
        exact L39 FUEL p1 (V 1 7) 0 V H locs ls hc hP hD hS (lv_sub hl [2, 3, 1, 0] rfl)
      · replace hc := ite_f c3 hc
        refine lv_bipush (v := (-3)) hx hb dX4_passes_26 (by decide +kernel) ?_
        exact hend H locs _ _ _ _ (some_fst hc) (some_snd hc) rfl hP hD hS dX4_passes_28
    · replace hc := ite_t c2 hc
      refine lv_iconst (v := (-1)) hx hb dX4_passes_11 (by decide) ?_
      exact hend H locs _ _ _ _ (some_fst hc) (some_snd hc) rfl hP hD hS dX4_passes_12
  rw [hHe, hLe] at goal0
  exact goal0
set_option maxHeartbeats 4000000 in
set_option maxRecDepth 100000 in
theorem C_X4_tick (l : Launch) (D : va_G) (cy : Nat → ClassId) (a : Nat → Nat) (V : FV) (p1 : Int32) (r : Int32) (V' : FV) (hc : f_X4_tick V p1 = some (r, V')) : ConI l yX4_tick wsX4_tick 6 139 D cy (MW cy a) [.ref (a 0), .int p1] V V' r := by
  refine bodyI (cc := cX4_tick) (maxL := 2) (ty := .int) (by decide +kernel) rfl (Nat.le_of_ble_eq_true rfl) ?_
  intro p e s m args below meth c A Q hx hb hml hts hown hK hP hD hA hS hend ls hl
  have hown : s.vm.findClass RX4 = some m.cls := hown
  have hP : va_P D vwCl (MW cy a V) s.heap := hP
  have hD : va_D A (MW cy a V) := hD
  have hl : lv_has ls 2 [(0, .ref (a 0)), (1, .int p1)] := hl
  have hend : ∀ (H : Heap) (locs : List Loc) (pc : Nat) (ls : Array Slot) (v : Int32) (V : FV), v = r → V = V' → narrow .int (.int v) = .int v → va_P D vwCl (MW cy a V) H → va_D A (MW cy a V) → va_S A s.heap H locs → decode cX4_tick pc = .ok (.ireturn, 1) → W p l e (RM 6 139) s m args below meth c H locs 0 0 Q (F0 m pc ls [.int v]) := fun H locs pc ls v V h1 h2 h3 h4 h5 h6 h7 => hend H locs pc ls v V h1 h2 h3 h4 h5 h6 h7
  obtain ⟨H, hHe⟩ : ∃ H : Heap, H = s.heap := ⟨_, rfl⟩
  obtain ⟨locs, hLe⟩ : ∃ x : List Loc, x = [] := ⟨_, rfl⟩
  have hP : va_P D vwCl (MW cy a V) H := by rw [hHe]; exact hP
  have hS : va_S A s.heap H locs := by rw [hHe, hLe]; exact hS
  have goal0 : W p l e (RM 6 139) s m args below meth c H locs 0 0 Q (F0 m 0 ls []) := by
    refine lv_aload_n hx hb dX4_tick_0 rfl (lv_at hl 0 rfl) ?_
    obtain ⟨V1, hc1, hc⟩ := b1_some hc
    refine gc_VV (n := 0) (q0 := 0) (ci := 4) (w' := MW cy a V1) hx hb hml hown hts hK hP hD hS hA hl.1 ⟨Nat.le_refl _, Nat.le_refl _⟩ (C_X4_copy l D cy a V V1 hc1) gX4_tick_X4_copy rfl (by decide +kernel) rfl ⟨by decide, by decide⟩ Jn.same rfl rfl rfl (Nat.le_of_ble_eq_true rfl) dX4_tick_1 (fun H locs hP hD hS => ?_)
    refine lv_aload_n hx hb dX4_tick_4 rfl (lv_at hl 0 rfl) ?_
    refine lv_aload_n hx hb dX4_tick_5 rfl (lv_at hl 0 rfl) ?_
    refine lv_iload_n hx hb dX4_tick_6 rfl (lv_at hl 1 rfl) ?_
    obtain ⟨x2, V2, hc2, hc⟩ := b2_some hc
    refine gc_VI (n := 1) (q0 := 0) (ci := 4) (w' := MW cy a V2) hx hb hml hown hts hK hP hD hS hA hl.1 ⟨Nat.le_refl _, Nat.le_refl _⟩ (C_X4_passes l D cy a V1 p1 x2 V2 hc2) gX4_tick_X4_passes rfl (by decide +kernel) rfl ⟨by decide, by decide⟩ Jn.same rfl rfl rfl (Nat.le_of_ble_eq_true rfl) dX4_tick_7 (fun H locs hP hD hS => ?_)
    obtain ⟨x3, V3, hc3, hc⟩ := b2_some hc
    refine gc_VI (n := 1) (q0 := 0) (ci := 4) (w' := MW cy a V3) hx hb hml hown hts hK hP hD hS hA hl.1 ⟨Nat.le_refl _, Nat.le_refl _⟩ (C_X4_recorded l D cy a V2 x2 x3 V3 hc3) gX4_tick_X4_recorded rfl (by decide +kernel) rfl ⟨by decide, by decide⟩ Jn.same rfl rfl rfl (Nat.le_of_ble_eq_true rfl) dX4_tick_10 (fun H locs hP hD hS => ?_)
    exact hend H locs _ _ _ _ (some_fst hc) (some_snd hc) rfl hP hD hS dX4_tick_13
  rw [hHe, hLe] at goal0
  exact goal0
set_option maxHeartbeats 4000000 in
set_option maxRecDepth 100000 in
theorem C_X4_set (l : Launch) (D : va_G) (cy : Nat → ClassId) (a : Nat → Nat) (V : FV) (p1 : Int32) (p2 : Int32) (r : Int32) (V' : FV) (hc : f_X4_set V p1 p2 = some (r, V')) : ConI l yX4_set wsX4_set 1 22 D cy (MW cy a) [.ref (a 0), .int p1, .int p2] V V' r := by
  refine bodyI (cc := cX4_set) (maxL := 4) (ty := .int) (by decide +kernel) rfl (Nat.le_of_ble_eq_true rfl) ?_
  intro p e s m args below meth c A Q hx hb hml hts hown hK hP hD hA hS hend ls hl
  have hown : s.vm.findClass RX4 = some m.cls := hown
  have hP : va_P D vwCl (MW cy a V) s.heap := hP
  have hD : va_D A (MW cy a V) := hD
  have hl : lv_has ls 4 [(0, .ref (a 0)), (1, .int p1), (2, .int p2)] := hl
  have hend : ∀ (H : Heap) (locs : List Loc) (pc : Nat) (ls : Array Slot) (v : Int32) (V : FV), v = r → V = V' → narrow .int (.int v) = .int v → va_P D vwCl (MW cy a V) H → va_D A (MW cy a V) → va_S A s.heap H locs → decode cX4_set pc = .ok (.ireturn, 1) → W p l e (RM 1 22) s m args below meth c H locs 0 0 Q (F0 m pc ls [.int v]) := fun H locs pc ls v V h1 h2 h3 h4 h5 h6 h7 => hend H locs pc ls v V h1 h2 h3 h4 h5 h6 h7
  have fl_7 := hts (.fieldLink RX4 7 "NoonWellsModel" "now" "[I") (by decide +kernel)
  have inw_X4 := (by decide +kernel : ∀ w ∈ u_ws RX4 TX4 12, w ∈ wsX4_set)
  obtain ⟨H, hHe⟩ : ∃ H : Heap, H = s.heap := ⟨_, rfl⟩
  obtain ⟨locs, hLe⟩ : ∃ x : List Loc, x = [] := ⟨_, rfl⟩
  have hP : va_P D vwCl (MW cy a V) H := by rw [hHe]; exact hP
  have hS : va_S A s.heap H locs := by rw [hHe, hLe]; exact hS
  have goal0 : W p l e (RM 1 22) s m args below meth c H locs 0 0 Q (F0 m 0 ls []) := by
    refine lv_iload_n hx hb dX4_set_0 rfl (lv_at hl 1 rfl) ?_
    refine lv_iconst (v := 0) hx hb dX4_set_1 (by decide) ?_
    refine lv_iconst (v := 1) hx hb dX4_set_2 (by decide) ?_
    obtain ⟨x1, hc1, hc⟩ := b1_some hc
    refine gc_SI (n := 3) (w' := MW cy a V) hx hb hml hown hts hK hP hD hS hA hl.1 ⟨Nat.le_refl _, Nat.le_refl _⟩ (C_X4_in l D cy p1 0 1 x1 hc1) gX4_set_X4_in rfl (by decide +kernel) rfl ⟨by decide, by decide⟩ Jn.none rfl (Nat.le_of_ble_eq_true rfl) dX4_set_3 (fun H locs hP hD hS => ?_)
    refine lv_if_eq (tgt := 35) hx hb dX4_set_6 (by decide) (fun c2 => ?_) (fun c2 => ?_)
    · replace hc := ite_t c2 hc
      refine lv_iconst (v := (-1)) hx hb dX4_set_35 (by decide) ?_
      exact hend H locs _ _ _ _ (some_fst hc) (some_snd hc) rfl hP hD hS dX4_set_36
    · replace hc := ite_f c2 hc
      refine lv_iload_n hx hb dX4_set_9 rfl (lv_at hl 2 rfl) ?_
      refine lv_iload_n hx hb dX4_set_10 rfl (lv_at hl 1 rfl) ?_
      refine lv_if_ne (tgt := 18) hx hb dX4_set_11 (by decide) (fun c3 => ?_) (fun c3 => ?_)
      · replace hc := ite_f c3 hc
        refine lv_iconst (v := 0) hx hb dX4_set_18 (by decide) ?_
        refine lv_iload_n hx hb dX4_set_19 rfl (lv_at hl 1 rfl) ?_
        refine lv_if_ne (tgt := 28) hx hb dX4_set_20 (by decide) (fun c4 => ?_) (fun c4 => ?_)
        · replace hc := ite_f c4 hc
          refine lv_iconst (v := 1) hx hb dX4_set_28 (by decide) ?_
          obtain ⟨x5, hc5, hc⟩ := b1_some hc
          refine gc_SI (n := 3) (w' := MW cy a V) hx hb hml hown hts hK hP hD hS hA hl.1 ⟨Nat.le_refl _, Nat.le_refl _⟩ (C_X4_in l D cy p2 0 1 x5 hc5) gX4_set_X4_in rfl (by decide +kernel) rfl ⟨by decide, by decide⟩ Jn.none rfl (Nat.le_of_ble_eq_true rfl) dX4_set_29 (fun H locs hP hD hS => ?_)
          refine lv_if_ne (tgt := 37) hx hb dX4_set_32 (by decide) (fun c6 => ?_) (fun c6 => ?_)
          · replace hc := ite_f c6 hc
            refine lv_aload_n hx hb dX4_set_37 rfl (lv_at hl 0 rfl) ?_
            obtain ⟨V7, hc7, hc⟩ := b1_some hc
            refine gc_VV (n := 0) (q0 := 0) (ci := 4) (w' := MW cy a V7) hx hb hml hown hts hK hP hD hS hA hl.1 ⟨Nat.le_refl _, Nat.le_refl _⟩ (C_X4_copy l D cy a V V7 hc7) gX4_set_X4_copy rfl (by decide +kernel) rfl ⟨by decide, by decide⟩ Jn.same rfl rfl rfl (Nat.le_of_ble_eq_true rfl) dX4_set_38 (fun H locs hP hD hS => ?_)
            refine lv_aload_n hx hb dX4_set_41 rfl (lv_at hl 0 rfl) ?_
            refine va_get (ci := 4) (v := .ref (a 1)) (C := RX4) (T := TX4) (N := 12) hx hb hts inw_X4 hown hK.1 hP 0 rfl rfl 0 (by decide) fl_7 (fun _ h9 => h9) rfl dX4_set_42 ?_
            refine lv_iconst (v := 1) hx hb dX4_set_45 (by decide) ?_
            refine lv_iload_n hx hb dX4_set_46 rfl (lv_at hl 1 rfl) ?_
            refine lv_iadd hx hb dX4_set_47 ?_
            obtain ⟨x8, hi8, hv8, hc⟩ := rd_some hc
            refine g_iald (x := x8) hx hb hK hP 1 rfl hi8 hv8 dX4_set_48 ?_
            refine lv_istore_n (lv' := [(3, .int x8), (0, .ref (a 0)), (1, .int p1), (2, .int p2)]) hx hb dX4_set_49 rfl hl (by decide) rfl (fun ls hl => ?_)
            refine lv_aload_n hx hb dX4_set_50 rfl (lv_at hl 1 rfl) ?_
            refine va_get (ci := 4) (v := .ref (a 1)) (C := RX4) (T := TX4) (N := 12) hx hb hts inw_X4 hown hK.1 hP 0 rfl rfl 0 (by decide) fl_7 (fun _ h9 => h9) rfl dX4_set_51 ?_
            refine lv_iconst (v := 1) hx hb dX4_set_54 (by decide) ?_
            refine lv_iload_n hx hb dX4_set_55 rfl (lv_at hl 2 rfl) ?_
            refine lv_iadd hx hb dX4_set_56 ?_
            refine lv_iload_n hx hb dX4_set_57 rfl (lv_at hl 3 rfl) ?_
            obtain ⟨V9, hi9, eV9, hc⟩ := wr_some hc
            refine g_iast (w' := MW cy a V9) hx hb hK hP hD hS 1 rfl hi9 (by rw [← eV9]; rfl) dX4_set_58 (fun H locs hP hD hS => ?_)
            refine lv_aload_n hx hb dX4_set_59 rfl (lv_at hl 1 rfl) ?_
            refine lv_iload_n hx hb dX4_set_60 rfl (lv_at hl 0 rfl) ?_
            obtain ⟨x10, V10, hc10, hc⟩ := b2_some hc
            refine gc_VI (n := 1) (q0 := 0) (ci := 4) (w' := MW cy a V10) hx hb hml hown hts hK hP hD hS hA hl.1 ⟨Nat.le_refl _, Nat.le_refl _⟩ (C_X4_recorded l D cy a V9 x8 x10 V10 hc10) gX4_set_X4_recorded rfl (by decide +kernel) rfl ⟨by decide, by decide⟩ Jn.same rfl rfl rfl (Nat.le_of_ble_eq_true rfl) dX4_set_61 (fun H locs hP hD hS => ?_)
            exact hend H locs _ _ _ _ (some_fst hc) (some_snd hc) rfl hP hD hS dX4_set_64
          · replace hc := ite_t c6 hc
            refine lv_iconst (v := (-1)) hx hb dX4_set_35 (by decide) ?_
            exact hend H locs _ _ _ _ (some_fst hc) (some_snd hc) rfl hP hD hS dX4_set_36
        · replace hc := ite_t c4 hc
          refine lv_bipush (v := 100) hx hb dX4_set_23 (by decide +kernel) ?_
          refine lv_goto (tgt := 29) hx hb dX4_set_25 (by decide) ?_
          obtain ⟨x11, hc11, hc⟩ := b1_some hc
          refine gc_SI (n := 3) (w' := MW cy a V) hx hb hml hown hts hK hP hD hS hA hl.1 ⟨Nat.le_refl _, Nat.le_refl _⟩ (C_X4_in l D cy p2 0 100 x11 hc11) gX4_set_X4_in rfl (by decide +kernel) rfl ⟨by decide, by decide⟩ Jn.none rfl (Nat.le_of_ble_eq_true rfl) dX4_set_29 (fun H locs hP hD hS => ?_)
          refine lv_if_ne (tgt := 37) hx hb dX4_set_32 (by decide) (fun c12 => ?_) (fun c12 => ?_)
          · replace hc := ite_f c12 hc
            refine lv_aload_n hx hb dX4_set_37 rfl (lv_at hl 0 rfl) ?_
            obtain ⟨V13, hc13, hc⟩ := b1_some hc
            refine gc_VV (n := 0) (q0 := 0) (ci := 4) (w' := MW cy a V13) hx hb hml hown hts hK hP hD hS hA hl.1 ⟨Nat.le_refl _, Nat.le_refl _⟩ (C_X4_copy l D cy a V V13 hc13) gX4_set_X4_copy rfl (by decide +kernel) rfl ⟨by decide, by decide⟩ Jn.same rfl rfl rfl (Nat.le_of_ble_eq_true rfl) dX4_set_38 (fun H locs hP hD hS => ?_)
            refine lv_aload_n hx hb dX4_set_41 rfl (lv_at hl 0 rfl) ?_
            refine va_get (ci := 4) (v := .ref (a 1)) (C := RX4) (T := TX4) (N := 12) hx hb hts inw_X4 hown hK.1 hP 0 rfl rfl 0 (by decide) fl_7 (fun _ h9 => h9) rfl dX4_set_42 ?_
            refine lv_iconst (v := 1) hx hb dX4_set_45 (by decide) ?_
            refine lv_iload_n hx hb dX4_set_46 rfl (lv_at hl 1 rfl) ?_
            refine lv_iadd hx hb dX4_set_47 ?_
            obtain ⟨x14, hi14, hv14, hc⟩ := rd_some hc
            refine g_iald (x := x14) hx hb hK hP 1 rfl hi14 hv14 dX4_set_48 ?_
            refine lv_istore_n (lv' := [(3, .int x14), (0, .ref (a 0)), (1, .int p1), (2, .int p2)]) hx hb dX4_set_49 rfl hl (by decide) rfl (fun ls hl => ?_)
            refine lv_aload_n hx hb dX4_set_50 rfl (lv_at hl 1 rfl) ?_
            refine va_get (ci := 4) (v := .ref (a 1)) (C := RX4) (T := TX4) (N := 12) hx hb hts inw_X4 hown hK.1 hP 0 rfl rfl 0 (by decide) fl_7 (fun _ h9 => h9) rfl dX4_set_51 ?_
            refine lv_iconst (v := 1) hx hb dX4_set_54 (by decide) ?_
            refine lv_iload_n hx hb dX4_set_55 rfl (lv_at hl 2 rfl) ?_
            refine lv_iadd hx hb dX4_set_56 ?_
            refine lv_iload_n hx hb dX4_set_57 rfl (lv_at hl 3 rfl) ?_
            obtain ⟨V15, hi15, eV15, hc⟩ := wr_some hc
            refine g_iast (w' := MW cy a V15) hx hb hK hP hD hS 1 rfl hi15 (by rw [← eV15]; rfl) dX4_set_58 (fun H locs hP hD hS => ?_)
            refine lv_aload_n hx hb dX4_set_59 rfl (lv_at hl 1 rfl) ?_
            refine lv_iload_n hx hb dX4_set_60 rfl (lv_at hl 0 rfl) ?_
            obtain ⟨x16, V16, hc16, hc⟩ := b2_some hc
            refine gc_VI (n := 1) (q0 := 0) (ci := 4) (w' := MW cy a V16) hx hb hml hown hts hK hP hD hS hA hl.1 ⟨Nat.le_refl _, Nat.le_refl _⟩ (C_X4_recorded l D cy a V15 x14 x16 V16 hc16) gX4_set_X4_recorded rfl (by decide +kernel) rfl ⟨by decide, by decide⟩ Jn.same rfl rfl rfl (Nat.le_of_ble_eq_true rfl) dX4_set_61 (fun H locs hP hD hS => ?_)
            exact hend H locs _ _ _ _ (some_fst hc) (some_snd hc) rfl hP hD hS dX4_set_64
          · replace hc := ite_t c12 hc
            refine lv_iconst (v := (-1)) hx hb dX4_set_35 (by decide) ?_
            exact hend H locs _ _ _ _ (some_fst hc) (some_snd hc) rfl hP hD hS dX4_set_36
      · replace hc := ite_t c3 hc
        refine lv_iconst (v := 4) hx hb dX4_set_14 (by decide) ?_
        refine lv_goto (tgt := 19) hx hb dX4_set_15 (by decide) ?_
        refine lv_iload_n hx hb dX4_set_19 rfl (lv_at hl 1 rfl) ?_
        refine lv_if_ne (tgt := 28) hx hb dX4_set_20 (by decide) (fun c17 => ?_) (fun c17 => ?_)
        · replace hc := ite_f c17 hc
          refine lv_iconst (v := 1) hx hb dX4_set_28 (by decide) ?_
          obtain ⟨x18, hc18, hc⟩ := b1_some hc
          refine gc_SI (n := 3) (w' := MW cy a V) hx hb hml hown hts hK hP hD hS hA hl.1 ⟨Nat.le_refl _, Nat.le_refl _⟩ (C_X4_in l D cy p2 4 1 x18 hc18) gX4_set_X4_in rfl (by decide +kernel) rfl ⟨by decide, by decide⟩ Jn.none rfl (Nat.le_of_ble_eq_true rfl) dX4_set_29 (fun H locs hP hD hS => ?_)
          refine lv_if_ne (tgt := 37) hx hb dX4_set_32 (by decide) (fun c19 => ?_) (fun c19 => ?_)
          · replace hc := ite_f c19 hc
            refine lv_aload_n hx hb dX4_set_37 rfl (lv_at hl 0 rfl) ?_
            obtain ⟨V20, hc20, hc⟩ := b1_some hc
            refine gc_VV (n := 0) (q0 := 0) (ci := 4) (w' := MW cy a V20) hx hb hml hown hts hK hP hD hS hA hl.1 ⟨Nat.le_refl _, Nat.le_refl _⟩ (C_X4_copy l D cy a V V20 hc20) gX4_set_X4_copy rfl (by decide +kernel) rfl ⟨by decide, by decide⟩ Jn.same rfl rfl rfl (Nat.le_of_ble_eq_true rfl) dX4_set_38 (fun H locs hP hD hS => ?_)
            refine lv_aload_n hx hb dX4_set_41 rfl (lv_at hl 0 rfl) ?_
            refine va_get (ci := 4) (v := .ref (a 1)) (C := RX4) (T := TX4) (N := 12) hx hb hts inw_X4 hown hK.1 hP 0 rfl rfl 0 (by decide) fl_7 (fun _ h9 => h9) rfl dX4_set_42 ?_
            refine lv_iconst (v := 1) hx hb dX4_set_45 (by decide) ?_
            refine lv_iload_n hx hb dX4_set_46 rfl (lv_at hl 1 rfl) ?_
            refine lv_iadd hx hb dX4_set_47 ?_
            obtain ⟨x21, hi21, hv21, hc⟩ := rd_some hc
            refine g_iald (x := x21) hx hb hK hP 1 rfl hi21 hv21 dX4_set_48 ?_
            refine lv_istore_n (lv' := [(3, .int x21), (0, .ref (a 0)), (1, .int p1), (2, .int p2)]) hx hb dX4_set_49 rfl hl (by decide) rfl (fun ls hl => ?_)
            refine lv_aload_n hx hb dX4_set_50 rfl (lv_at hl 1 rfl) ?_
            refine va_get (ci := 4) (v := .ref (a 1)) (C := RX4) (T := TX4) (N := 12) hx hb hts inw_X4 hown hK.1 hP 0 rfl rfl 0 (by decide) fl_7 (fun _ h9 => h9) rfl dX4_set_51 ?_
            refine lv_iconst (v := 1) hx hb dX4_set_54 (by decide) ?_
            refine lv_iload_n hx hb dX4_set_55 rfl (lv_at hl 2 rfl) ?_
            refine lv_iadd hx hb dX4_set_56 ?_
            refine lv_iload_n hx hb dX4_set_57 rfl (lv_at hl 3 rfl) ?_
            obtain ⟨V22, hi22, eV22, hc⟩ := wr_some hc
            refine g_iast (w' := MW cy a V22) hx hb hK hP hD hS 1 rfl hi22 (by rw [← eV22]; rfl) dX4_set_58 (fun H locs hP hD hS => ?_)
            refine lv_aload_n hx hb dX4_set_59 rfl (lv_at hl 1 rfl) ?_
            refine lv_iload_n hx hb dX4_set_60 rfl (lv_at hl 0 rfl) ?_
            obtain ⟨x23, V23, hc23, hc⟩ := b2_some hc
            refine gc_VI (n := 1) (q0 := 0) (ci := 4) (w' := MW cy a V23) hx hb hml hown hts hK hP hD hS hA hl.1 ⟨Nat.le_refl _, Nat.le_refl _⟩ (C_X4_recorded l D cy a V22 x21 x23 V23 hc23) gX4_set_X4_recorded rfl (by decide +kernel) rfl ⟨by decide, by decide⟩ Jn.same rfl rfl rfl (Nat.le_of_ble_eq_true rfl) dX4_set_61 (fun H locs hP hD hS => ?_)
            exact hend H locs _ _ _ _ (some_fst hc) (some_snd hc) rfl hP hD hS dX4_set_64
          · replace hc := ite_t c19 hc
            refine lv_iconst (v := (-1)) hx hb dX4_set_35 (by decide) ?_
            exact hend H locs _ _ _ _ (some_fst hc) (some_snd hc) rfl hP hD hS dX4_set_36
        · replace hc := ite_t c17 hc
          refine lv_bipush (v := 100) hx hb dX4_set_23 (by decide +kernel) ?_
          refine lv_goto (tgt := 29) hx hb dX4_set_25 (by decide) ?_
          obtain ⟨x24, hc24, hc⟩ := b1_some hc
          refine gc_SI (n := 3) (w' := MW cy a V) hx hb hml hown hts hK hP hD hS hA hl.1 ⟨Nat.le_refl _, Nat.le_refl _⟩ (C_X4_in l D cy p2 4 100 x24 hc24) gX4_set_X4_in rfl (by decide +kernel) rfl ⟨by decide, by decide⟩ Jn.none rfl (Nat.le_of_ble_eq_true rfl) dX4_set_29 (fun H locs hP hD hS => ?_)
          refine lv_if_ne (tgt := 37) hx hb dX4_set_32 (by decide) (fun c25 => ?_) (fun c25 => ?_)
          · replace hc := ite_f c25 hc
            refine lv_aload_n hx hb dX4_set_37 rfl (lv_at hl 0 rfl) ?_
            obtain ⟨V26, hc26, hc⟩ := b1_some hc
            refine gc_VV (n := 0) (q0 := 0) (ci := 4) (w' := MW cy a V26) hx hb hml hown hts hK hP hD hS hA hl.1 ⟨Nat.le_refl _, Nat.le_refl _⟩ (C_X4_copy l D cy a V V26 hc26) gX4_set_X4_copy rfl (by decide +kernel) rfl ⟨by decide, by decide⟩ Jn.same rfl rfl rfl (Nat.le_of_ble_eq_true rfl) dX4_set_38 (fun H locs hP hD hS => ?_)
            refine lv_aload_n hx hb dX4_set_41 rfl (lv_at hl 0 rfl) ?_
            refine va_get (ci := 4) (v := .ref (a 1)) (C := RX4) (T := TX4) (N := 12) hx hb hts inw_X4 hown hK.1 hP 0 rfl rfl 0 (by decide) fl_7 (fun _ h9 => h9) rfl dX4_set_42 ?_
            refine lv_iconst (v := 1) hx hb dX4_set_45 (by decide) ?_
            refine lv_iload_n hx hb dX4_set_46 rfl (lv_at hl 1 rfl) ?_
            refine lv_iadd hx hb dX4_set_47 ?_
            obtain ⟨x27, hi27, hv27, hc⟩ := rd_some hc
            refine g_iald (x := x27) hx hb hK hP 1 rfl hi27 hv27 dX4_set_48 ?_
            refine lv_istore_n (lv' := [(3, .int x27), (0, .ref (a 0)), (1, .int p1), (2, .int p2)]) hx hb dX4_set_49 rfl hl (by decide) rfl (fun ls hl => ?_)
            refine lv_aload_n hx hb dX4_set_50 rfl (lv_at hl 1 rfl) ?_
            refine va_get (ci := 4) (v := .ref (a 1)) (C := RX4) (T := TX4) (N := 12) hx hb hts inw_X4 hown hK.1 hP 0 rfl rfl 0 (by decide) fl_7 (fun _ h9 => h9) rfl dX4_set_51 ?_
            refine lv_iconst (v := 1) hx hb dX4_set_54 (by decide) ?_
            refine lv_iload_n hx hb dX4_set_55 rfl (lv_at hl 2 rfl) ?_
            refine lv_iadd hx hb dX4_set_56 ?_
            refine lv_iload_n hx hb dX4_set_57 rfl (lv_at hl 3 rfl) ?_
            obtain ⟨V28, hi28, eV28, hc⟩ := wr_some hc
            refine g_iast (w' := MW cy a V28) hx hb hK hP hD hS 1 rfl hi28 (by rw [← eV28]; rfl) dX4_set_58 (fun H locs hP hD hS => ?_)
            refine lv_aload_n hx hb dX4_set_59 rfl (lv_at hl 1 rfl) ?_
            refine lv_iload_n hx hb dX4_set_60 rfl (lv_at hl 0 rfl) ?_
            obtain ⟨x29, V29, hc29, hc⟩ := b2_some hc
            refine gc_VI (n := 1) (q0 := 0) (ci := 4) (w' := MW cy a V29) hx hb hml hown hts hK hP hD hS hA hl.1 ⟨Nat.le_refl _, Nat.le_refl _⟩ (C_X4_recorded l D cy a V28 x27 x29 V29 hc29) gX4_set_X4_recorded rfl (by decide +kernel) rfl ⟨by decide, by decide⟩ Jn.same rfl rfl rfl (Nat.le_of_ble_eq_true rfl) dX4_set_61 (fun H locs hP hD hS => ?_)
            exact hend H locs _ _ _ _ (some_fst hc) (some_snd hc) rfl hP hD hS dX4_set_64
          · replace hc := ite_t c25 hc
            refine lv_iconst (v := (-1)) hx hb dX4_set_35 (by decide) ?_
            exact hend H locs _ _ _ _ (some_fst hc) (some_snd hc) rfl hP hD hS dX4_set_36
  rw [hHe, hLe] at goal0
  exact goal0
set_option maxHeartbeats 4000000 in
set_option maxRecDepth 100000 in
theorem C_X4_possibleIn (l : Launch) (D : va_G) (cy : Nat → ClassId) (a : Nat → Nat) (V : FV) (p1 : Int32) (p2 : Int32) (r : Int32) (V' : FV) (hc : f_X4_possibleIn V p1 p2 = some (r, V')) : ConI l yX4_possibleIn wsX4_possibleIn 5 116 D cy (MW cy a) [.ref (a 0), .int p1, .int p2] V V' r := by
  refine bodyI (cc := cX4_possibleIn) (maxL := 4) (ty := .int) (by decide +kernel) rfl (Nat.le_of_ble_eq_true rfl) ?_
  intro p e s m args below meth c A Q hx hb hml hts hown hK hP hD hA hS hend ls hl
  have hown : s.vm.findClass RX4 = some m.cls := hown
  have hP : va_P D vwCl (MW cy a V) s.heap := hP
  have hD : va_D A (MW cy a V) := hD
  have hl : lv_has ls 4 [(0, .ref (a 0)), (1, .int p1), (2, .int p2)] := hl
  have hend : ∀ (H : Heap) (locs : List Loc) (pc : Nat) (ls : Array Slot) (v : Int32) (V : FV), v = r → V = V' → narrow .int (.int v) = .int v → va_P D vwCl (MW cy a V) H → va_D A (MW cy a V) → va_S A s.heap H locs → decode cX4_possibleIn pc = .ok (.ireturn, 1) → W p l e (RM 5 116) s m args below meth c H locs 0 0 Q (F0 m pc ls [.int v]) := fun H locs pc ls v V h1 h2 h3 h4 h5 h6 h7 => hend H locs pc ls v V h1 h2 h3 h4 h5 h6 h7
  have L23 : ∀ (n : Nat), ∀ (y1 y2 y3 : Int32) (V : FV) (H : Heap) (locs : List Loc) (ls : Array Slot), f_X4_possibleIn_L23 n y1 y2 y3 V = some (r, V') → va_P D vwCl (MW cy a V) H → va_D A (MW cy a V) → va_S A s.heap H locs → lv_has ls 4 [(0, .ref (a 0)), (1, .int y1), (2, .int y2), (3, .int y3)] → W p l e (RM 5 116) s m args below meth c H locs 0 0 Q (F0 m 23 ls []) := by
    intro n
    induction n with
    | zero =>
      intro y1 y2 y3 V H locs ls hc
      cases hc
    | succ n ih =>
      intro y1 y2 y3 V H locs ls hc hP hD hS hl
      refine lv_iload_n hx hb dX4_possibleIn_23 rfl (lv_at hl 3 rfl) ?_
      refine lv_sipush (v := 300) hx hb dX4_possibleIn_24 (by decide +kernel) ?_
      refine lv_icmp_gt (tgt := 49) hx hb dX4_possibleIn_27 (by decide) (fun c6 => ?_) (fun c6 => ?_)
      · replace hc := ite_t c6 hc
        refine lv_aload_n hx hb dX4_possibleIn_49 rfl (lv_at hl 0 rfl) ?_
        obtain ⟨V7, hc7, hc⟩ := b1_some hc
        refine gc_VV (n := 0) (q0 := 0) (ci := 4) (w' := MW cy a V7) hx hb hml hown hts hK hP hD hS hA hl.1 ⟨Nat.le_refl _, Nat.le_refl _⟩ (C_X4_back l D cy a V V7 hc7) gX4_possibleIn_X4_back rfl (by decide +kernel) rfl ⟨by decide, by decide⟩ Jn.same rfl rfl rfl (Nat.le_of_ble_eq_true rfl) dX4_possibleIn_50 (fun H locs hP hD hS => ?_)
        refine lv_iload_n hx hb dX4_possibleIn_53 rfl (lv_at hl 3 rfl) ?_
        refine lv_sipush (v := 300) hx hb dX4_possibleIn_54 (by decide +kernel) ?_
        refine lv_icmp_le (tgt := 65) hx hb dX4_possibleIn_57 (by decide) (fun c8 => ?_) (fun c8 => ?_)
        · replace hc := ite_t c8 hc
          refine lv_iload_n hx hb dX4_possibleIn_65 rfl (lv_at hl 3 rfl) ?_
          exact hend H locs _ _ _ _ (some_fst hc) (some_snd hc) rfl hP hD hS dX4_possibleIn_66
        · replace hc := ite_f c8 hc
          refine lv_bipush (v := (-4)) hx hb dX4_possibleIn_60 (by decide +kernel) ?_
          refine lv_goto (tgt := 66) hx hb dX4_possibleIn_62 (by decide) ?_
          exact hend H locs _ _ _ _ (some_fst hc) (some_snd hc) rfl hP hD hS dX4_possibleIn_66
      · replace hc := ite_f c6 hc
        refine lv_aload_n hx hb dX4_possibleIn_30 rfl (lv_at hl 0 rfl) ?_
        refine lv_iload_n hx hb dX4_possibleIn_31 rfl (lv_at hl 1 rfl) ?_
        obtain ⟨x9, hc9, hc⟩ := b1_some hc
        refine gc_VI (n := 1) (q0 := 0) (ci := 4) (w' := MW cy a V) hx hb hml hown hts hK hP hD hS hA hl.1 ⟨Nat.le_refl _, Nat.le_refl _⟩ (C_X4_ableOf l D cy a V y1 x9 hc9) gX4_possibleIn_X4_ableOf rfl (by decide +kernel) rfl ⟨by decide, by decide⟩ Jn.same rfl rfl rfl (Nat.le_of_ble_eq_true rfl) dX4_possibleIn_32 (fun H locs hP hD hS => ?_)
        refine lv_iload_n hx hb dX4_possibleIn_35 rfl (lv_at hl 2 rfl) ?_
        refine lv_icmp_ge (tgt := 49) hx hb dX4_possibleIn_36 (by decide) (fun c10 => ?_) (fun c10 => ?_)
        · replace hc := ite_t c10 hc
          refine lv_aload_n hx hb dX4_possibleIn_49 rfl (lv_at hl 0 rfl) ?_
          obtain ⟨V11, hc11, hc⟩ := b1_some hc
          refine gc_VV (n := 0) (q0 := 0) (ci := 4) (w' := MW cy a V11) hx hb hml hown hts hK hP hD hS hA hl.1 ⟨Nat.le_refl _, Nat.le_refl _⟩ (C_X4_back l D cy a V V11 hc11) gX4_possibleIn_X4_back rfl (by decide +kernel) rfl ⟨by decide, by decide⟩ Jn.same rfl rfl rfl (Nat.le_of_ble_eq_true rfl) dX4_possibleIn_50 (fun H locs hP hD hS => ?_)
          refine lv_iload_n hx hb dX4_possibleIn_53 rfl (lv_at hl 3 rfl) ?_
          refine lv_sipush (v := 300) hx hb dX4_possibleIn_54 (by decide +kernel) ?_
          refine lv_icmp_le (tgt := 65) hx hb dX4_possibleIn_57 (by decide) (fun c12 => ?_) (fun c12 => ?_)
          · replace hc := ite_t c12 hc
            refine lv_iload_n hx hb dX4_possibleIn_65 rfl (lv_at hl 3 rfl) ?_
            exact hend H locs _ _ _ _ (some_fst hc) (some_snd hc) rfl hP hD hS dX4_possibleIn_66
          · replace hc := ite_f c12 hc
            refine lv_bipush (v := (-4)) hx hb dX4_possibleIn_60 (by decide +kernel) ?_
            refine lv_goto (tgt := 66) hx hb dX4_possibleIn_62 (by decide) ?_
            exact hend H locs _ _ _ _ (some_fst hc) (some_snd hc) rfl hP hD hS dX4_possibleIn_66
        · replace hc := ite_f c10 hc
          refine lv_aload_n hx hb dX4_possibleIn_39 rfl (lv_at hl 0 rfl) ?_
          obtain ⟨V13, hc13, hc⟩ := b1_some hc
          refine gc_VV (n := 0) (q0 := 0) (ci := 4) (w' := MW cy a V13) hx hb hml hown hts hK hP hD hS hA hl.1 ⟨Nat.le_refl _, Nat.le_refl _⟩ (C_X4_ticks l D cy a V V13 hc13) gX4_possibleIn_X4_ticks rfl (by decide +kernel) rfl ⟨by decide, by decide⟩ Jn.same rfl rfl rfl (Nat.le_of_ble_eq_true rfl) dX4_possibleIn_40 (fun H locs hP hD hS => ?_)
          refine lv_iinc (v := y3 + 1) (lv' := [(3, .int (y3 + 1)), (0, .ref (a 0)), (1, .int y1), (2, .int y2)]) hx hb dX4_possibleIn_43 hl (k := 3) rfl rfl (by decide) rfl (fun ls hl => ?_)
          refine lv_goto (tgt := 23) hx hb dX4_possibleIn_46 (by decide) ?_
          exact ih y1 y2 (y3 + 1) V13 H locs ls hc hP hD hS (lv_sub hl [1, 2, 3, 0] rfl)
  obtain ⟨H, hHe⟩ : ∃ H : Heap, H = s.heap := ⟨_, rfl⟩
  obtain ⟨locs, hLe⟩ : ∃ x : List Loc, x = [] := ⟨_, rfl⟩
  have hP : va_P D vwCl (MW cy a V) H := by rw [hHe]; exact hP
  have hS : va_S A s.heap H locs := by rw [hHe, hLe]; exact hS
  have goal0 : W p l e (RM 5 116) s m args below meth c H locs 0 0 Q (F0 m 0 ls []) := by
    refine lv_aload_n hx hb dX4_possibleIn_0 rfl (lv_at hl 0 rfl) ?_
    refine lv_iload_n hx hb dX4_possibleIn_1 rfl (lv_at hl 1 rfl) ?_
    obtain ⟨x1, hc1, hc⟩ := b1_some hc
    refine gc_VI (n := 1) (q0 := 0) (ci := 4) (w' := MW cy a V) hx hb hml hown hts hK hP hD hS hA hl.1 ⟨Nat.le_refl _, Nat.le_refl _⟩ (C_X4_isWell l D cy a V p1 x1 hc1) gX4_possibleIn_X4_isWell rfl (by decide +kernel) rfl ⟨by decide, by decide⟩ Jn.same rfl rfl rfl (Nat.le_of_ble_eq_true rfl) dX4_possibleIn_2 (fun H locs hP hD hS => ?_)
    refine lv_if_eq (tgt := 15) hx hb dX4_possibleIn_5 (by decide) (fun c2 => ?_) (fun c2 => ?_)
    · replace hc := ite_t c2 hc
      refine lv_iconst (v := (-1)) hx hb dX4_possibleIn_15 (by decide) ?_
      exact hend H locs _ _ _ _ (some_fst hc) (some_snd hc) rfl hP hD hS dX4_possibleIn_16
    · replace hc := ite_f c2 hc
      refine lv_iload_n hx hb dX4_possibleIn_8 rfl (lv_at hl 2 rfl) ?_
      obtain ⟨x3, hc3, hc⟩ := b1_some hc
      refine gc_SI (n := 1) (w' := MW cy a V) hx hb hml hown hts hK hP hD hS hA hl.1 ⟨Nat.le_refl _, Nat.le_refl _⟩ (C_X4_isDraw l D cy p2 x3 hc3) gX4_possibleIn_X4_isDraw rfl (by decide +kernel) rfl ⟨by decide, by decide⟩ Jn.none rfl (Nat.le_of_ble_eq_true rfl) dX4_possibleIn_9 (fun H locs hP hD hS => ?_)
      refine lv_if_ne (tgt := 17) hx hb dX4_possibleIn_12 (by decide) (fun c4 => ?_) (fun c4 => ?_)
      · replace hc := ite_f c4 hc
        refine lv_aload_n hx hb dX4_possibleIn_17 rfl (lv_at hl 0 rfl) ?_
        obtain ⟨V5, hc5, hc⟩ := b1_some hc
        refine gc_VV (n := 0) (q0 := 0) (ci := 4) (w' := MW cy a V5) hx hb hml hown hts hK hP hD hS hA hl.1 ⟨Nat.le_refl _, Nat.le_refl _⟩ (C_X4_copy l D cy a V V5 hc5) gX4_possibleIn_X4_copy rfl (by decide +kernel) rfl ⟨by decide, by decide⟩ Jn.same rfl rfl rfl (Nat.le_of_ble_eq_true rfl) dX4_possibleIn_18 (fun H locs hP hD hS => ?_)
        refine lv_iconst (v := 0) hx hb dX4_possibleIn_21 (by decide) ?_
        refine lv_istore_n (lv' := [(3, .int 0), (0, .ref (a 0)), (1, .int p1), (2, .int p2)]) hx hb dX4_possibleIn_22 rfl hl (by decide) rfl (fun ls hl => ?_)
        exact L23 FUEL p1 p2 0 V5 H locs ls hc hP hD hS (lv_sub hl [1, 2, 3, 0] rfl)
      · replace hc := ite_t c4 hc
        refine lv_iconst (v := (-1)) hx hb dX4_possibleIn_15 (by decide) ?_
        exact hend H locs _ _ _ _ (some_fst hc) (some_snd hc) rfl hP hD hS dX4_possibleIn_16
  rw [hHe, hLe] at goal0
  exact goal0
set_option maxHeartbeats 4000000 in
set_option maxRecDepth 100000 in
theorem C_X4_waterIn (l : Launch) (D : va_G) (cy : Nat → ClassId) (a : Nat → Nat) (V : FV) (p1 : Int32) (p2 : Int32) (r : Int32) (V' : FV) (hc : f_X4_waterIn V p1 p2 = some (r, V')) : ConI l yX4_waterIn wsX4_waterIn 5 116 D cy (MW cy a) [.ref (a 0), .int p1, .int p2] V V' r := by
  refine bodyI (cc := cX4_waterIn) (maxL := 4) (ty := .int) (by decide +kernel) rfl (Nat.le_of_ble_eq_true rfl) ?_
  intro p e s m args below meth c A Q hx hb hml hts hown hK hP hD hA hS hend ls hl
  have hown : s.vm.findClass RX4 = some m.cls := hown
  have hP : va_P D vwCl (MW cy a V) s.heap := hP
  have hD : va_D A (MW cy a V) := hD
  have hl : lv_has ls 4 [(0, .ref (a 0)), (1, .int p1), (2, .int p2)] := hl
  have hend : ∀ (H : Heap) (locs : List Loc) (pc : Nat) (ls : Array Slot) (v : Int32) (V : FV), v = r → V = V' → narrow .int (.int v) = .int v → va_P D vwCl (MW cy a V) H → va_D A (MW cy a V) → va_S A s.heap H locs → decode cX4_waterIn pc = .ok (.ireturn, 1) → W p l e (RM 5 116) s m args below meth c H locs 0 0 Q (F0 m pc ls [.int v]) := fun H locs pc ls v V h1 h2 h3 h4 h5 h6 h7 => hend H locs pc ls v V h1 h2 h3 h4 h5 h6 h7
  have L27 : ∀ (n : Nat), ∀ (y1 y2 y3 : Int32) (V : FV) (H : Heap) (locs : List Loc) (ls : Array Slot), f_X4_waterIn_L27 n y1 y2 y3 V = some (r, V') → va_P D vwCl (MW cy a V) H → va_D A (MW cy a V) → va_S A s.heap H locs → lv_has ls 4 [(0, .ref (a 0)), (1, .int y1), (2, .int y2), (3, .int y3)] → W p l e (RM 5 116) s m args below meth c H locs 0 0 Q (F0 m 27 ls []) := by
    intro n
    induction n with
    | zero =>
      intro y1 y2 y3 V H locs ls hc
      cases hc
    | succ n ih =>
      intro y1 y2 y3 V H locs ls hc hP hD hS hl
      refine lv_iload_n hx hb dX4_waterIn_27 rfl (lv_at hl 3 rfl) ?_
      refine lv_iload_n hx hb dX4_waterIn_28 rfl (lv_at hl 2 rfl) ?_
      refine lv_icmp_ge (tgt := 42) hx hb dX4_waterIn_29 (by decide) (fun c6 => ?_) (fun c6 => ?_)
      · replace hc := ite_t c6 hc
        refine lv_aload_n hx hb dX4_waterIn_42 rfl (lv_at hl 0 rfl) ?_
        refine lv_iload_n hx hb dX4_waterIn_43 rfl (lv_at hl 1 rfl) ?_
        refine lv_iconst (v := 4) hx hb dX4_waterIn_44 (by decide) ?_
        obtain ⟨x7, hc7, hc⟩ := b1_some hc
        refine gc_VI (n := 2) (q0 := 0) (ci := 4) (w' := MW cy a V) hx hb hml hown hts hK hP hD hS hA hl.1 ⟨Nat.le_refl _, Nat.le_refl _⟩ (C_X4_of l D cy a V y1 4 x7 hc7) gX4_waterIn_X4_of rfl (by decide +kernel) rfl ⟨by decide, by decide⟩ Jn.same rfl rfl rfl (Nat.le_of_ble_eq_true rfl) dX4_waterIn_45 (fun H locs hP hD hS => ?_)
        refine lv_istore_n (lv' := [(3, .int x7), (0, .ref (a 0)), (1, .int y1), (2, .int y2)]) hx hb dX4_waterIn_48 rfl hl (by decide) rfl (fun ls hl => ?_)
        refine lv_aload_n hx hb dX4_waterIn_49 rfl (lv_at hl 1 rfl) ?_
        obtain ⟨V8, hc8, hc⟩ := b1_some hc
        refine gc_VV (n := 0) (q0 := 0) (ci := 4) (w' := MW cy a V8) hx hb hml hown hts hK hP hD hS hA hl.1 ⟨Nat.le_refl _, Nat.le_refl _⟩ (C_X4_back l D cy a V V8 hc8) gX4_waterIn_X4_back rfl (by decide +kernel) rfl ⟨by decide, by decide⟩ Jn.same rfl rfl rfl (Nat.le_of_ble_eq_true rfl) dX4_waterIn_50 (fun H locs hP hD hS => ?_)
        refine lv_iload_n hx hb dX4_waterIn_53 rfl (lv_at hl 0 rfl) ?_
        exact hend H locs _ _ _ _ (some_fst hc) (some_snd hc) rfl hP hD hS dX4_waterIn_54
      · replace hc := ite_f c6 hc
        refine lv_aload_n hx hb dX4_waterIn_32 rfl (lv_at hl 0 rfl) ?_
        obtain ⟨V9, hc9, hc⟩ := b1_some hc
        refine gc_VV (n := 0) (q0 := 0) (ci := 4) (w' := MW cy a V9) hx hb hml hown hts hK hP hD hS hA hl.1 ⟨Nat.le_refl _, Nat.le_refl _⟩ (C_X4_ticks l D cy a V V9 hc9) gX4_waterIn_X4_ticks rfl (by decide +kernel) rfl ⟨by decide, by decide⟩ Jn.same rfl rfl rfl (Nat.le_of_ble_eq_true rfl) dX4_waterIn_33 (fun H locs hP hD hS => ?_)
        refine lv_iinc (v := y3 + 1) (lv' := [(3, .int (y3 + 1)), (0, .ref (a 0)), (1, .int y1), (2, .int y2)]) hx hb dX4_waterIn_36 hl (k := 3) rfl rfl (by decide) rfl (fun ls hl => ?_)
        refine lv_goto (tgt := 27) hx hb dX4_waterIn_39 (by decide) ?_
        exact ih y1 y2 (y3 + 1) V9 H locs ls hc hP hD hS (lv_sub hl [1, 2, 3, 0] rfl)
  obtain ⟨H, hHe⟩ : ∃ H : Heap, H = s.heap := ⟨_, rfl⟩
  obtain ⟨locs, hLe⟩ : ∃ x : List Loc, x = [] := ⟨_, rfl⟩
  have hP : va_P D vwCl (MW cy a V) H := by rw [hHe]; exact hP
  have hS : va_S A s.heap H locs := by rw [hHe, hLe]; exact hS
  have goal0 : W p l e (RM 5 116) s m args below meth c H locs 0 0 Q (F0 m 0 ls []) := by
    refine lv_aload_n hx hb dX4_waterIn_0 rfl (lv_at hl 0 rfl) ?_
    refine lv_iload_n hx hb dX4_waterIn_1 rfl (lv_at hl 1 rfl) ?_
    obtain ⟨x1, hc1, hc⟩ := b1_some hc
    refine gc_VI (n := 1) (q0 := 0) (ci := 4) (w' := MW cy a V) hx hb hml hown hts hK hP hD hS hA hl.1 ⟨Nat.le_refl _, Nat.le_refl _⟩ (C_X4_isWell l D cy a V p1 x1 hc1) gX4_waterIn_X4_isWell rfl (by decide +kernel) rfl ⟨by decide, by decide⟩ Jn.same rfl rfl rfl (Nat.le_of_ble_eq_true rfl) dX4_waterIn_2 (fun H locs hP hD hS => ?_)
    refine lv_if_eq (tgt := 19) hx hb dX4_waterIn_5 (by decide) (fun c2 => ?_) (fun c2 => ?_)
    · replace hc := ite_t c2 hc
      refine lv_iconst (v := (-1)) hx hb dX4_waterIn_19 (by decide) ?_
      exact hend H locs _ _ _ _ (some_fst hc) (some_snd hc) rfl hP hD hS dX4_waterIn_20
    · replace hc := ite_f c2 hc
      refine lv_iload_n hx hb dX4_waterIn_8 rfl (lv_at hl 2 rfl) ?_
      refine lv_iconst (v := 0) hx hb dX4_waterIn_9 (by decide) ?_
      refine lv_sipush (v := 300) hx hb dX4_waterIn_10 (by decide +kernel) ?_
      obtain ⟨x3, hc3, hc⟩ := b1_some hc
      refine gc_SI (n := 3) (w' := MW cy a V) hx hb hml hown hts hK hP hD hS hA hl.1 ⟨Nat.le_refl _, Nat.le_refl _⟩ (C_X4_in l D cy p2 0 300 x3 hc3) gX4_waterIn_X4_in rfl (by decide +kernel) rfl ⟨by decide, by decide⟩ Jn.none rfl (Nat.le_of_ble_eq_true rfl) dX4_waterIn_13 (fun H locs hP hD hS => ?_)
      refine lv_if_ne (tgt := 21) hx hb dX4_waterIn_16 (by decide) (fun c4 => ?_) (fun c4 => ?_)
      · replace hc := ite_f c4 hc
        refine lv_aload_n hx hb dX4_waterIn_21 rfl (lv_at hl 0 rfl) ?_
        obtain ⟨V5, hc5, hc⟩ := b1_some hc
        refine gc_VV (n := 0) (q0 := 0) (ci := 4) (w' := MW cy a V5) hx hb hml hown hts hK hP hD hS hA hl.1 ⟨Nat.le_refl _, Nat.le_refl _⟩ (C_X4_copy l D cy a V V5 hc5) gX4_waterIn_X4_copy rfl (by decide +kernel) rfl ⟨by decide, by decide⟩ Jn.same rfl rfl rfl (Nat.le_of_ble_eq_true rfl) dX4_waterIn_22 (fun H locs hP hD hS => ?_)
        refine lv_iconst (v := 0) hx hb dX4_waterIn_25 (by decide) ?_
        refine lv_istore_n (lv' := [(3, .int 0), (0, .ref (a 0)), (1, .int p1), (2, .int p2)]) hx hb dX4_waterIn_26 rfl hl (by decide) rfl (fun ls hl => ?_)
        exact L27 FUEL p1 p2 0 V5 H locs ls hc hP hD hS (lv_sub hl [1, 2, 3, 0] rfl)
      · replace hc := ite_t c4 hc
        refine lv_iconst (v := (-1)) hx hb dX4_waterIn_19 (by decide) ?_
        exact hend H locs _ _ _ _ (some_fst hc) (some_snd hc) rfl hP hD hS dX4_waterIn_20
  rw [hHe, hLe] at goal0
  exact goal0
set_option maxHeartbeats 4000000 in
set_option maxRecDepth 100000 in
theorem C_X4_lenders (l : Launch) (D : va_G) (cy : Nat → ClassId) (a : Nat → Nat) (V : FV) (r : Int32) (V' : FV) (hc : f_X4_lenders V = some (r, V')) : ConI l yX4_lenders wsX4_lenders 3 67 D cy (MW cy a) [.ref (a 0)] V V' r := by
  refine bodyI (cc := cX4_lenders) (maxL := 2) (ty := .int) (by decide +kernel) rfl (Nat.le_of_ble_eq_true rfl) ?_
  intro p e s m args below meth c A Q hx hb hml hts hown hK hP hD hA hS hend ls hl
  have hown : s.vm.findClass RX4 = some m.cls := hown
  have hP : va_P D vwCl (MW cy a V) s.heap := hP
  have hD : va_D A (MW cy a V) := hD
  have hl : lv_has ls 2 [(0, .ref (a 0))] := hl
  have hend : ∀ (H : Heap) (locs : List Loc) (pc : Nat) (ls : Array Slot) (v : Int32) (V : FV), v = r → V = V' → narrow .int (.int v) = .int v → va_P D vwCl (MW cy a V) H → va_D A (MW cy a V) → va_S A s.heap H locs → decode cX4_lenders pc = .ok (.ireturn, 1) → W p l e (RM 3 67) s m args below meth c H locs 0 0 Q (F0 m pc ls [.int v]) := fun H locs pc ls v V h1 h2 h3 h4 h5 h6 h7 => hend H locs pc ls v V h1 h2 h3 h4 h5 h6 h7
  obtain ⟨H, hHe⟩ : ∃ H : Heap, H = s.heap := ⟨_, rfl⟩
  obtain ⟨locs, hLe⟩ : ∃ x : List Loc, x = [] := ⟨_, rfl⟩
  have hP : va_P D vwCl (MW cy a V) H := by rw [hHe]; exact hP
  have hS : va_S A s.heap H locs := by rw [hHe, hLe]; exact hS
  have goal0 : W p l e (RM 3 67) s m args below meth c H locs 0 0 Q (F0 m 0 ls []) := by
    refine lv_aload_n hx hb dX4_lenders_0 rfl (lv_at hl 0 rfl) ?_
    obtain ⟨V1, hc1, hc⟩ := b1_some hc
    refine gc_VV (n := 0) (q0 := 0) (ci := 4) (w' := MW cy a V1) hx hb hml hown hts hK hP hD hS hA hl.1 ⟨Nat.le_refl _, Nat.le_refl _⟩ (C_X4_copy l D cy a V V1 hc1) gX4_lenders_X4_copy rfl (by decide +kernel) rfl ⟨by decide, by decide⟩ Jn.same rfl rfl rfl (Nat.le_of_ble_eq_true rfl) dX4_lenders_1 (fun H locs hP hD hS => ?_)
    refine lv_aload_n hx hb dX4_lenders_4 rfl (lv_at hl 0 rfl) ?_
    obtain ⟨x2, V2, hc2, hc⟩ := b2_some hc
    refine gc_VI (n := 0) (q0 := 0) (ci := 4) (w' := MW cy a V2) hx hb hml hown hts hK hP hD hS hA hl.1 ⟨Nat.le_refl _, Nat.le_refl _⟩ (C_X4_lends l D cy a V1 x2 V2 hc2) gX4_lenders_X4_lends rfl (by decide +kernel) rfl ⟨by decide, by decide⟩ Jn.same rfl rfl rfl (Nat.le_of_ble_eq_true rfl) dX4_lenders_5 (fun H locs hP hD hS => ?_)
    refine lv_istore_n (lv' := [(1, .int x2), (0, .ref (a 0))]) hx hb dX4_lenders_8 rfl hl (by decide) rfl (fun ls hl => ?_)
    refine lv_aload_n hx hb dX4_lenders_9 rfl (lv_at hl 1 rfl) ?_
    obtain ⟨V3, hc3, hc⟩ := b1_some hc
    refine gc_VV (n := 0) (q0 := 0) (ci := 4) (w' := MW cy a V3) hx hb hml hown hts hK hP hD hS hA hl.1 ⟨Nat.le_refl _, Nat.le_refl _⟩ (C_X4_back l D cy a V2 V3 hc3) gX4_lenders_X4_back rfl (by decide +kernel) rfl ⟨by decide, by decide⟩ Jn.same rfl rfl rfl (Nat.le_of_ble_eq_true rfl) dX4_lenders_10 (fun H locs hP hD hS => ?_)
    refine lv_iload_n hx hb dX4_lenders_13 rfl (lv_at hl 0 rfl) ?_
    exact hend H locs _ _ _ _ (some_fst hc) (some_snd hc) rfl hP hD hS dX4_lenders_14
  rw [hHe, hLe] at goal0
  exact goal0
