set_option maxHeartbeats 4000000 in
set_option maxRecDepth 100000 in
theorem C_X4_order (l : Launch) (D : va_G) (cy : Nat → ClassId) (a : Nat → Nat) (V : FV) (V' : FV) (hc : f_X4_order V = some V') : ConV l yX4_order wsX4_order 7 160 D cy (MW cy a) [.ref (a 0)] V V' := by
  refine bodyV (cc := cX4_order) (maxL := 4) (by decide +kernel) rfl (Nat.le_of_ble_eq_true rfl) ?_
  intro p e s m args below meth c A Q hx hb hml hts hown hK hP hD hA hS hend ls hl
  have hown : s.vm.findClass RX4 = some m.cls := hown
  have hP : va_P D vwCl (MW cy a V) s.heap := hP
  have hD : va_D A (MW cy a V) := hD
  have hl : lv_has ls 4 [(0, .ref (a 0))] := hl
  have hend : ∀ (H : Heap) (locs : List Loc) (pc : Nat) (ls : Array Slot) (V : FV), V = V' → va_P D vwCl (MW cy a V) H → va_D A (MW cy a V) → va_S A s.heap H locs → decode cX4_order pc = .ok (.return_, 1) → W p l e (RM 7 160) s m args below meth c H locs 0 0 Q (F0 m pc ls []) := fun H locs pc ls V h1 h2 h3 h4 h5 => hend H locs pc ls V h1 h2 h3 h4 h5
  have fl_134 := hts (.fieldLink RX4 134 "NoonWellsModel" "readAt" "I") (by decide +kernel)
  have inw_X4 := (by decide +kernel : ∀ w ∈ u_ws RX4 TX4 12, w ∈ wsX4_order)
  have fl_143 := hts (.fieldLink RX4 143 "NoonWellsModel" "reason" "I") (by decide +kernel)
  obtain ⟨H, hHe⟩ : ∃ H : Heap, H = s.heap := ⟨_, rfl⟩
  obtain ⟨locs, hLe⟩ : ∃ x : List Loc, x = [] := ⟨_, rfl⟩
  have hP : va_P D vwCl (MW cy a V) H := by rw [hHe]; exact hP
  have hS : va_S A s.heap H locs := by rw [hHe, hLe]; exact hS
  have goal0 : W p l e (RM 7 160) s m args below meth c H locs 0 0 Q (F0 m 0 ls []) := by
    refine lv_aload_n hx hb dX4_order_0 rfl (lv_at hl 0 rfl) ?_
    obtain ⟨x1, hc1, hc⟩ := b1_some hc
    refine gc_VI (n := 0) (q0 := 0) (ci := 4) (w' := MW cy a V) hx hb hml hown hts hK hP hD hS hA hl.1 ⟨Nat.le_refl _, Nat.le_refl _⟩ (C_X4_here l D cy a V x1 hc1) gX4_order_X4_here rfl (by decide +kernel) rfl ⟨by decide, by decide⟩ Jn.same rfl rfl rfl (Nat.le_of_ble_eq_true rfl) dX4_order_1 (fun H locs hP hD hS => ?_)
    refine lv_istore_n (lv' := [(1, .int x1), (0, .ref (a 0))]) hx hb dX4_order_4 rfl hl (by decide) rfl (fun ls hl => ?_)
    refine lv_aload_n hx hb dX4_order_5 rfl (lv_at hl 1 rfl) ?_
    refine lv_dup hx hb dX4_order_6 rfl ?_
    refine va_get (ci := 4) (v := .int (V 0 3)) (C := RX4) (T := TX4) (N := 12) hx hb hts inw_X4 hown hK.1 hP 0 rfl rfl 7 (by decide) fl_134 (fun _ h9 => h9) rfl dX4_order_7 ?_
    refine lv_iconst (v := 1) hx hb dX4_order_10 (by decide) ?_
    refine lv_iadd hx hb dX4_order_11 ?_
    obtain ⟨V2, eV2, hc⟩ := lt1_some hc
    refine g_put (ci := 4) (C := RX4) (T := TX4) (N := 12) (w' := MW cy a V2) hx hb hts inw_X4 tyX4 tyX4_ok nmX4 hown hK hP hD hS 0 rfl rfl 7 (by decide) fl_134 (fun _ h9 => h9) rfl (by decide +kernel) (Nat.le_of_ble_eq_true rfl) (by rw [← eV2]; rfl) dX4_order_12 (fun H locs hP hD hS => ?_)
    refine lv_iload_n hx hb dX4_order_15 rfl (lv_at hl 0 rfl) ?_
    refine lv_bipush (v := 100) hx hb dX4_order_16 (by decide +kernel) ?_
    refine lv_icmp_eq (tgt := 39) hx hb dX4_order_18 (by decide) (fun c3 => ?_) (fun c3 => ?_)
    · replace hc := ite_t c3 hc
      refine lv_iconst (v := 1) hx hb dX4_order_39 (by decide) ?_
      refine lv_goto (tgt := 44) hx hb dX4_order_40 (by decide) ?_
      refine lv_istore_n (lv' := [(2, .int 1), (1, .int x1), (0, .ref (a 0))]) hx hb dX4_order_44 rfl hl (by decide) rfl (fun ls hl => ?_)
      refine lv_iload_n hx hb dX4_order_45 rfl (lv_at hl 0 rfl) ?_
      refine lv_if_eq (tgt := 77) hx hb dX4_order_46 (by decide) (fun c9 => absurd c9 (by decide)) (fun _ => ?_)
      refine lv_aload_n hx hb dX4_order_49 rfl (lv_at hl 2 rfl) ?_
      refine lv_iload_n hx hb dX4_order_50 rfl (lv_at hl 1 rfl) ?_
      refine lv_bipush (v := 116) hx hb dX4_order_51 (by decide +kernel) ?_
      refine lv_icmp_ne (tgt := 60) hx hb dX4_order_53 (by decide) (fun c4 => ?_) (fun c4 => ?_)
      · replace hc := ite_f c4 hc
        refine lv_iload_n hx hb dX4_order_60 rfl (lv_at hl 1 rfl) ?_
        refine lv_bipush (v := 110) hx hb dX4_order_61 (by decide +kernel) ?_
        refine lv_icmp_ne (tgt := 70) hx hb dX4_order_63 (by decide) (fun c5 => ?_) (fun c5 => ?_)
        · replace hc := ite_f c5 hc
          refine lv_iconst (v := 2) hx hb dX4_order_70 (by decide) ?_
          obtain ⟨x6, V6, hc6, hc⟩ := b2_some hc
          refine gc_VI (n := 1) (q0 := 0) (ci := 4) (w' := MW cy a V6) hx hb hml hown hts hK hP hD hS hA hl.1 ⟨Nat.le_refl _, Nat.le_refl _⟩ (C_X4_reads l D cy a V2 2 x6 V6 hc6) gX4_order_X4_reads rfl (by decide +kernel) rfl ⟨by decide, by decide⟩ Jn.same rfl rfl rfl (Nat.le_of_ble_eq_true rfl) dX4_order_71 (fun H locs hP hD hS => ?_)
          refine lv_if_ne (tgt := 83) hx hb dX4_order_74 (by decide) (fun c7 => ?_) (fun c7 => ?_)
          · replace hc := ite_f c7 hc
            refine lv_aload_n hx hb dX4_order_83 rfl (lv_at hl 2 rfl) ?_
            refine lv_iload_n hx hb dX4_order_84 rfl (lv_at hl 1 rfl) ?_
            obtain ⟨x8, V8, hc8, hc⟩ := b2_some hc
            refine gc_VI (n := 1) (q0 := 0) (ci := 4) (w' := MW cy a V8) hx hb hml hown hts hK hP hD hS hA hl.1 ⟨Nat.le_refl _, Nat.le_refl _⟩ (C_X4_does l D cy a V6 x1 x8 V8 hc8) gX4_order_X4_does rfl (by decide +kernel) rfl ⟨by decide, by decide⟩ Jn.same rfl rfl rfl (Nat.le_of_ble_eq_true rfl) dX4_order_85 (fun H locs hP hD hS => ?_)
            refine lv_istore_n (lv' := [(3, .int x8), (2, .int 1), (1, .int x1), (0, .ref (a 0))]) hx hb dX4_order_88 rfl hl (by decide) rfl (fun ls hl => ?_)
            refine lv_aload_n hx hb dX4_order_89 rfl (lv_at hl 3 rfl) ?_
            refine lv_iload_n hx hb dX4_order_90 rfl (lv_at hl 0 rfl) ?_
            refine lv_iconst (v := (-1)) hx hb dX4_order_91 (by decide) ?_
            refine lv_icmp_ne (tgt := 99) hx hb dX4_order_92 (by decide) (fun c9 => ?_) (fun c9 => ?_)
            · replace hc := ite_f c9 hc
              refine lv_iload_n hx hb dX4_order_99 rfl (lv_at hl 0 rfl) ?_
              refine lv_if_ge (tgt := 107) hx hb dX4_order_100 (by decide) (fun c10 => ?_) (fun c10 => ?_)
              · replace hc := ite_t c10 hc
                refine lv_iconst (v := 0) hx hb dX4_order_107 (by decide) ?_
                obtain ⟨V11, eV11, hc⟩ := lt1_some hc
                refine g_put (ci := 4) (C := RX4) (T := TX4) (N := 12) (w' := MW cy a V11) hx hb hts inw_X4 tyX4 tyX4_ok nmX4 hown hK hP hD hS 0 rfl rfl 8 (by decide) fl_143 (fun _ h9 => h9) rfl (by decide +kernel) (Nat.le_of_ble_eq_true rfl) (by rw [← eV11]; rfl) dX4_order_108 (fun H locs hP hD hS => ?_)
                exact hend H locs _ _ _ (some_one hc) hP hD hS dX4_order_111
              · replace hc := ite_f c10 hc
                refine lv_iconst (v := 3) hx hb dX4_order_103 (by decide) ?_
                refine lv_goto (tgt := 108) hx hb dX4_order_104 (by decide) ?_
                obtain ⟨V12, eV12, hc⟩ := lt1_some hc
                refine g_put (ci := 4) (C := RX4) (T := TX4) (N := 12) (w' := MW cy a V12) hx hb hts inw_X4 tyX4 tyX4_ok nmX4 hown hK hP hD hS 0 rfl rfl 8 (by decide) fl_143 (fun _ h9 => h9) rfl (by decide +kernel) (Nat.le_of_ble_eq_true rfl) (by rw [← eV12]; rfl) dX4_order_108 (fun H locs hP hD hS => ?_)
                exact hend H locs _ _ _ (some_one hc) hP hD hS dX4_order_111
            · replace hc := ite_t c9 hc
              refine lv_iconst (v := 2) hx hb dX4_order_95 (by decide) ?_
              refine lv_goto (tgt := 108) hx hb dX4_order_96 (by decide) ?_
              obtain ⟨V13, eV13, hc⟩ := lt1_some hc
              refine g_put (ci := 4) (C := RX4) (T := TX4) (N := 12) (w' := MW cy a V13) hx hb hts inw_X4 tyX4 tyX4_ok nmX4 hown hK hP hD hS 0 rfl rfl 8 (by decide) fl_143 (fun _ h9 => h9) rfl (by decide +kernel) (Nat.le_of_ble_eq_true rfl) (by rw [← eV13]; rfl) dX4_order_108 (fun H locs hP hD hS => ?_)
              exact hend H locs _ _ _ (some_one hc) hP hD hS dX4_order_111
          · replace hc := ite_t c7 hc
            refine lv_aload_n hx hb dX4_order_77 rfl (lv_at hl 2 rfl) ?_
            refine lv_iconst (v := 1) hx hb dX4_order_78 (by decide) ?_
            obtain ⟨V14, eV14, hc⟩ := lt1_some hc
            refine g_put (ci := 4) (C := RX4) (T := TX4) (N := 12) (w' := MW cy a V14) hx hb hts inw_X4 tyX4 tyX4_ok nmX4 hown hK hP hD hS 0 rfl rfl 8 (by decide) fl_143 (fun _ h9 => h9) rfl (by decide +kernel) (Nat.le_of_ble_eq_true rfl) (by rw [← eV14]; rfl) dX4_order_79 (fun H locs hP hD hS => ?_)
            exact hend H locs _ _ _ (some_one hc) hP hD hS dX4_order_82
        · replace hc := ite_t c5 hc
          refine lv_iconst (v := 3) hx hb dX4_order_66 (by decide) ?_
          refine lv_goto (tgt := 71) hx hb dX4_order_67 (by decide) ?_
          obtain ⟨x15, V15, hc15, hc⟩ := b2_some hc
          refine gc_VI (n := 1) (q0 := 0) (ci := 4) (w' := MW cy a V15) hx hb hml hown hts hK hP hD hS hA hl.1 ⟨Nat.le_refl _, Nat.le_refl _⟩ (C_X4_reads l D cy a V2 3 x15 V15 hc15) gX4_order_X4_reads rfl (by decide +kernel) rfl ⟨by decide, by decide⟩ Jn.same rfl rfl rfl (Nat.le_of_ble_eq_true rfl) dX4_order_71 (fun H locs hP hD hS => ?_)
          refine lv_if_ne (tgt := 83) hx hb dX4_order_74 (by decide) (fun c16 => ?_) (fun c16 => ?_)
          · replace hc := ite_f c16 hc
            refine lv_aload_n hx hb dX4_order_83 rfl (lv_at hl 2 rfl) ?_
            refine lv_iload_n hx hb dX4_order_84 rfl (lv_at hl 1 rfl) ?_
            obtain ⟨x17, V17, hc17, hc⟩ := b2_some hc
            refine gc_VI (n := 1) (q0 := 0) (ci := 4) (w' := MW cy a V17) hx hb hml hown hts hK hP hD hS hA hl.1 ⟨Nat.le_refl _, Nat.le_refl _⟩ (C_X4_does l D cy a V15 x1 x17 V17 hc17) gX4_order_X4_does rfl (by decide +kernel) rfl ⟨by decide, by decide⟩ Jn.same rfl rfl rfl (Nat.le_of_ble_eq_true rfl) dX4_order_85 (fun H locs hP hD hS => ?_)
            refine lv_istore_n (lv' := [(3, .int x17), (2, .int 1), (1, .int x1), (0, .ref (a 0))]) hx hb dX4_order_88 rfl hl (by decide) rfl (fun ls hl => ?_)
            refine lv_aload_n hx hb dX4_order_89 rfl (lv_at hl 3 rfl) ?_
            refine lv_iload_n hx hb dX4_order_90 rfl (lv_at hl 0 rfl) ?_
            refine lv_iconst (v := (-1)) hx hb dX4_order_91 (by decide) ?_
            refine lv_icmp_ne (tgt := 99) hx hb dX4_order_92 (by decide) (fun c18 => ?_) (fun c18 => ?_)
            · replace hc := ite_f c18 hc
              refine lv_iload_n hx hb dX4_order_99 rfl (lv_at hl 0 rfl) ?_
              refine lv_if_ge (tgt := 107) hx hb dX4_order_100 (by decide) (fun c19 => ?_) (fun c19 => ?_)
              · replace hc := ite_t c19 hc
                refine lv_iconst (v := 0) hx hb dX4_order_107 (by decide) ?_
                obtain ⟨V20, eV20, hc⟩ := lt1_some hc
                refine g_put (ci := 4) (C := RX4) (T := TX4) (N := 12) (w' := MW cy a V20) hx hb hts inw_X4 tyX4 tyX4_ok nmX4 hown hK hP hD hS 0 rfl rfl 8 (by decide) fl_143 (fun _ h9 => h9) rfl (by decide +kernel) (Nat.le_of_ble_eq_true rfl) (by rw [← eV20]; rfl) dX4_order_108 (fun H locs hP hD hS => ?_)
                exact hend H locs _ _ _ (some_one hc) hP hD hS dX4_order_111
              · replace hc := ite_f c19 hc
                refine lv_iconst (v := 3) hx hb dX4_order_103 (by decide) ?_
                refine lv_goto (tgt := 108) hx hb dX4_order_104 (by decide) ?_
                obtain ⟨V21, eV21, hc⟩ := lt1_some hc
                refine g_put (ci := 4) (C := RX4) (T := TX4) (N := 12) (w' := MW cy a V21) hx hb hts inw_X4 tyX4 tyX4_ok nmX4 hown hK hP hD hS 0 rfl rfl 8 (by decide) fl_143 (fun _ h9 => h9) rfl (by decide +kernel) (Nat.le_of_ble_eq_true rfl) (by rw [← eV21]; rfl) dX4_order_108 (fun H locs hP hD hS => ?_)
                exact hend H locs _ _ _ (some_one hc) hP hD hS dX4_order_111
            · replace hc := ite_t c18 hc
              refine lv_iconst (v := 2) hx hb dX4_order_95 (by decide) ?_
              refine lv_goto (tgt := 108) hx hb dX4_order_96 (by decide) ?_
              obtain ⟨V22, eV22, hc⟩ := lt1_some hc
              refine g_put (ci := 4) (C := RX4) (T := TX4) (N := 12) (w' := MW cy a V22) hx hb hts inw_X4 tyX4 tyX4_ok nmX4 hown hK hP hD hS 0 rfl rfl 8 (by decide) fl_143 (fun _ h9 => h9) rfl (by decide +kernel) (Nat.le_of_ble_eq_true rfl) (by rw [← eV22]; rfl) dX4_order_108 (fun H locs hP hD hS => ?_)
              exact hend H locs _ _ _ (some_one hc) hP hD hS dX4_order_111
          · replace hc := ite_t c16 hc
            refine lv_aload_n hx hb dX4_order_77 rfl (lv_at hl 2 rfl) ?_
            refine lv_iconst (v := 1) hx hb dX4_order_78 (by decide) ?_
            obtain ⟨V23, eV23, hc⟩ := lt1_some hc
            refine g_put (ci := 4) (C := RX4) (T := TX4) (N := 12) (w' := MW cy a V23) hx hb hts inw_X4 tyX4 tyX4_ok nmX4 hown hK hP hD hS 0 rfl rfl 8 (by decide) fl_143 (fun _ h9 => h9) rfl (by decide +kernel) (Nat.le_of_ble_eq_true rfl) (by rw [← eV23]; rfl) dX4_order_79 (fun H locs hP hD hS => ?_)
            exact hend H locs _ _ _ (some_one hc) hP hD hS dX4_order_82
      · replace hc := ite_t c4 hc
        refine lv_iconst (v := 1) hx hb dX4_order_56 (by decide) ?_
        refine lv_goto (tgt := 71) hx hb dX4_order_57 (by decide) ?_
        obtain ⟨x24, V24, hc24, hc⟩ := b2_some hc
        refine gc_VI (n := 1) (q0 := 0) (ci := 4) (w' := MW cy a V24) hx hb hml hown hts hK hP hD hS hA hl.1 ⟨Nat.le_refl _, Nat.le_refl _⟩ (C_X4_reads l D cy a V2 1 x24 V24 hc24) gX4_order_X4_reads rfl (by decide +kernel) rfl ⟨by decide, by decide⟩ Jn.same rfl rfl rfl (Nat.le_of_ble_eq_true rfl) dX4_order_71 (fun H locs hP hD hS => ?_)
        refine lv_if_ne (tgt := 83) hx hb dX4_order_74 (by decide) (fun c25 => ?_) (fun c25 => ?_)
        · replace hc := ite_f c25 hc
          refine lv_aload_n hx hb dX4_order_83 rfl (lv_at hl 2 rfl) ?_
          refine lv_iload_n hx hb dX4_order_84 rfl (lv_at hl 1 rfl) ?_
          obtain ⟨x26, V26, hc26, hc⟩ := b2_some hc
          refine gc_VI (n := 1) (q0 := 0) (ci := 4) (w' := MW cy a V26) hx hb hml hown hts hK hP hD hS hA hl.1 ⟨Nat.le_refl _, Nat.le_refl _⟩ (C_X4_does l D cy a V24 x1 x26 V26 hc26) gX4_order_X4_does rfl (by decide +kernel) rfl ⟨by decide, by decide⟩ Jn.same rfl rfl rfl (Nat.le_of_ble_eq_true rfl) dX4_order_85 (fun H locs hP hD hS => ?_)
          refine lv_istore_n (lv' := [(3, .int x26), (2, .int 1), (1, .int x1), (0, .ref (a 0))]) hx hb dX4_order_88 rfl hl (by decide) rfl (fun ls hl => ?_)
          refine lv_aload_n hx hb dX4_order_89 rfl (lv_at hl 3 rfl) ?_
          refine lv_iload_n hx hb dX4_order_90 rfl (lv_at hl 0 rfl) ?_
          refine lv_iconst (v := (-1)) hx hb dX4_order_91 (by decide) ?_
          refine lv_icmp_ne (tgt := 99) hx hb dX4_order_92 (by decide) (fun c27 => ?_) (fun c27 => ?_)
          · replace hc := ite_f c27 hc
            refine lv_iload_n hx hb dX4_order_99 rfl (lv_at hl 0 rfl) ?_
            refine lv_if_ge (tgt := 107) hx hb dX4_order_100 (by decide) (fun c28 => ?_) (fun c28 => ?_)
            · replace hc := ite_t c28 hc
              refine lv_iconst (v := 0) hx hb dX4_order_107 (by decide) ?_
              obtain ⟨V29, eV29, hc⟩ := lt1_some hc
              refine g_put (ci := 4) (C := RX4) (T := TX4) (N := 12) (w' := MW cy a V29) hx hb hts inw_X4 tyX4 tyX4_ok nmX4 hown hK hP hD hS 0 rfl rfl 8 (by decide) fl_143 (fun _ h9 => h9) rfl (by decide +kernel) (Nat.le_of_ble_eq_true rfl) (by rw [← eV29]; rfl) dX4_order_108 (fun H locs hP hD hS => ?_)
              exact hend H locs _ _ _ (some_one hc) hP hD hS dX4_order_111
            · replace hc := ite_f c28 hc
              refine lv_iconst (v := 3) hx hb dX4_order_103 (by decide) ?_
              refine lv_goto (tgt := 108) hx hb dX4_order_104 (by decide) ?_
              obtain ⟨V30, eV30, hc⟩ := lt1_some hc
              refine g_put (ci := 4) (C := RX4) (T := TX4) (N := 12) (w' := MW cy a V30) hx hb hts inw_X4 tyX4 tyX4_ok nmX4 hown hK hP hD hS 0 rfl rfl 8 (by decide) fl_143 (fun _ h9 => h9) rfl (by decide +kernel) (Nat.le_of_ble_eq_true rfl) (by rw [← eV30]; rfl) dX4_order_108 (fun H locs hP hD hS => ?_)
              exact hend H locs _ _ _ (some_one hc) hP hD hS dX4_order_111
          · replace hc := ite_t c27 hc
            refine lv_iconst (v := 2) hx hb dX4_order_95 (by decide) ?_
            refine lv_goto (tgt := 108) hx hb dX4_order_96 (by decide) ?_
            obtain ⟨V31, eV31, hc⟩ := lt1_some hc
            refine g_put (ci := 4) (C := RX4) (T := TX4) (N := 12) (w' := MW cy a V31) hx hb hts inw_X4 tyX4 tyX4_ok nmX4 hown hK hP hD hS 0 rfl rfl 8 (by decide) fl_143 (fun _ h9 => h9) rfl (by decide +kernel) (Nat.le_of_ble_eq_true rfl) (by rw [← eV31]; rfl) dX4_order_108 (fun H locs hP hD hS => ?_)
            exact hend H locs _ _ _ (some_one hc) hP hD hS dX4_order_111
        · replace hc := ite_t c25 hc
          refine lv_aload_n hx hb dX4_order_77 rfl (lv_at hl 2 rfl) ?_
          refine lv_iconst (v := 1) hx hb dX4_order_78 (by decide) ?_
          obtain ⟨V32, eV32, hc⟩ := lt1_some hc
          refine g_put (ci := 4) (C := RX4) (T := TX4) (N := 12) (w' := MW cy a V32) hx hb hts inw_X4 tyX4 tyX4_ok nmX4 hown hK hP hD hS 0 rfl rfl 8 (by decide) fl_143 (fun _ h9 => h9) rfl (by decide +kernel) (Nat.le_of_ble_eq_true rfl) (by rw [← eV32]; rfl) dX4_order_79 (fun H locs hP hD hS => ?_)
          exact hend H locs _ _ _ (some_one hc) hP hD hS dX4_order_82
    · replace hc := ite_f c3 hc
      refine lv_iload_n hx hb dX4_order_21 rfl (lv_at hl 0 rfl) ?_
      refine lv_bipush (v := 114) hx hb dX4_order_22 (by decide +kernel) ?_
      refine lv_icmp_eq (tgt := 39) hx hb dX4_order_24 (by decide) (fun c33 => ?_) (fun c33 => ?_)
      · replace hc := ite_t c33 hc
        refine lv_iconst (v := 1) hx hb dX4_order_39 (by decide) ?_
        refine lv_goto (tgt := 44) hx hb dX4_order_40 (by decide) ?_
        refine lv_istore_n (lv' := [(2, .int 1), (1, .int x1), (0, .ref (a 0))]) hx hb dX4_order_44 rfl hl (by decide) rfl (fun ls hl => ?_)
        refine lv_iload_n hx hb dX4_order_45 rfl (lv_at hl 0 rfl) ?_
        refine lv_if_eq (tgt := 77) hx hb dX4_order_46 (by decide) (fun c9 => absurd c9 (by decide)) (fun _ => ?_)
        refine lv_aload_n hx hb dX4_order_49 rfl (lv_at hl 2 rfl) ?_
        refine lv_iload_n hx hb dX4_order_50 rfl (lv_at hl 1 rfl) ?_
        refine lv_bipush (v := 116) hx hb dX4_order_51 (by decide +kernel) ?_
        refine lv_icmp_ne (tgt := 60) hx hb dX4_order_53 (by decide) (fun c34 => ?_) (fun c34 => ?_)
        · replace hc := ite_f c34 hc
          refine lv_iload_n hx hb dX4_order_60 rfl (lv_at hl 1 rfl) ?_
          refine lv_bipush (v := 110) hx hb dX4_order_61 (by decide +kernel) ?_
          refine lv_icmp_ne (tgt := 70) hx hb dX4_order_63 (by decide) (fun c35 => ?_) (fun c35 => ?_)
          · replace hc := ite_f c35 hc
            refine lv_iconst (v := 2) hx hb dX4_order_70 (by decide) ?_
            obtain ⟨x36, V36, hc36, hc⟩ := b2_some hc
            refine gc_VI (n := 1) (q0 := 0) (ci := 4) (w' := MW cy a V36) hx hb hml hown hts hK hP hD hS hA hl.1 ⟨Nat.le_refl _, Nat.le_refl _⟩ (C_X4_reads l D cy a V2 2 x36 V36 hc36) gX4_order_X4_reads rfl (by decide +kernel) rfl ⟨by decide, by decide⟩ Jn.same rfl rfl rfl (Nat.le_of_ble_eq_true rfl) dX4_order_71 (fun H locs hP hD hS => ?_)
            refine lv_if_ne (tgt := 83) hx hb dX4_order_74 (by decide) (fun c37 => ?_) (fun c37 => ?_)
            · replace hc := ite_f c37 hc
              refine lv_aload_n hx hb dX4_order_83 rfl (lv_at hl 2 rfl) ?_
              refine lv_iload_n hx hb dX4_order_84 rfl (lv_at hl 1 rfl) ?_
              obtain ⟨x38, V38, hc38, hc⟩ := b2_some hc
              refine gc_VI (n := 1) (q0 := 0) (ci := 4) (w' := MW cy a V38) hx hb hml hown hts hK hP hD hS hA hl.1 ⟨Nat.le_refl _, Nat.le_refl _⟩ (C_X4_does l D cy a V36 x1 x38 V38 hc38) gX4_order_X4_does rfl (by decide +kernel) rfl ⟨by decide, by decide⟩ Jn.same rfl rfl rfl (Nat.le_of_ble_eq_true rfl) dX4_order_85 (fun H locs hP hD hS => ?_)
              refine lv_istore_n (lv' := [(3, .int x38), (2, .int 1), (1, .int x1), (0, .ref (a 0))]) hx hb dX4_order_88 rfl hl (by decide) rfl (fun ls hl => ?_)
              refine lv_aload_n hx hb dX4_order_89 rfl (lv_at hl 3 rfl) ?_
              refine lv_iload_n hx hb dX4_order_90 rfl (lv_at hl 0 rfl) ?_
              refine lv_iconst (v := (-1)) hx hb dX4_order_91 (by decide) ?_
              refine lv_icmp_ne (tgt := 99) hx hb dX4_order_92 (by decide) (fun c39 => ?_) (fun c39 => ?_)
              · replace hc := ite_f c39 hc
                refine lv_iload_n hx hb dX4_order_99 rfl (lv_at hl 0 rfl) ?_
                refine lv_if_ge (tgt := 107) hx hb dX4_order_100 (by decide) (fun c40 => ?_) (fun c40 => ?_)
                · replace hc := ite_t c40 hc
                  refine lv_iconst (v := 0) hx hb dX4_order_107 (by decide) ?_
                  obtain ⟨V41, eV41, hc⟩ := lt1_some hc
                  refine g_put (ci := 4) (C := RX4) (T := TX4) (N := 12) (w' := MW cy a V41) hx hb hts inw_X4 tyX4 tyX4_ok nmX4 hown hK hP hD hS 0 rfl rfl 8 (by decide) fl_143 (fun _ h9 => h9) rfl (by decide +kernel) (Nat.le_of_ble_eq_true rfl) (by rw [← eV41]; rfl) dX4_order_108 (fun H locs hP hD hS => ?_)
                  exact hend H locs _ _ _ (some_one hc) hP hD hS dX4_order_111
                · replace hc := ite_f c40 hc
                  refine lv_iconst (v := 3) hx hb dX4_order_103 (by decide) ?_
                  refine lv_goto (tgt := 108) hx hb dX4_order_104 (by decide) ?_
                  obtain ⟨V42, eV42, hc⟩ := lt1_some hc
                  refine g_put (ci := 4) (C := RX4) (T := TX4) (N := 12) (w' := MW cy a V42) hx hb hts inw_X4 tyX4 tyX4_ok nmX4 hown hK hP hD hS 0 rfl rfl 8 (by decide) fl_143 (fun _ h9 => h9) rfl (by decide +kernel) (Nat.le_of_ble_eq_true rfl) (by rw [← eV42]; rfl) dX4_order_108 (fun H locs hP hD hS => ?_)
                  exact hend H locs _ _ _ (some_one hc) hP hD hS dX4_order_111
              · replace hc := ite_t c39 hc
                refine lv_iconst (v := 2) hx hb dX4_order_95 (by decide) ?_
                refine lv_goto (tgt := 108) hx hb dX4_order_96 (by decide) ?_
                obtain ⟨V43, eV43, hc⟩ := lt1_some hc
                refine g_put (ci := 4) (C := RX4) (T := TX4) (N := 12) (w' := MW cy a V43) hx hb hts inw_X4 tyX4 tyX4_ok nmX4 hown hK hP hD hS 0 rfl rfl 8 (by decide) fl_143 (fun _ h9 => h9) rfl (by decide +kernel) (Nat.le_of_ble_eq_true rfl) (by rw [← eV43]; rfl) dX4_order_108 (fun H locs hP hD hS => ?_)
                exact hend H locs _ _ _ (some_one hc) hP hD hS dX4_order_111
            · replace hc := ite_t c37 hc
              refine lv_aload_n hx hb dX4_order_77 rfl (lv_at hl 2 rfl) ?_
              refine lv_iconst (v := 1) hx hb dX4_order_78 (by decide) ?_
              obtain ⟨V44, eV44, hc⟩ := lt1_some hc
              refine g_put (ci := 4) (C := RX4) (T := TX4) (N := 12) (w' := MW cy a V44) hx hb hts inw_X4 tyX4 tyX4_ok nmX4 hown hK hP hD hS 0 rfl rfl 8 (by decide) fl_143 (fun _ h9 => h9) rfl (by decide +kernel) (Nat.le_of_ble_eq_true rfl) (by rw [← eV44]; rfl) dX4_order_79 (fun H locs hP hD hS => ?_)
              exact hend H locs _ _ _ (some_one hc) hP hD hS dX4_order_82
          · replace hc := ite_t c35 hc
            refine lv_iconst (v := 3) hx hb dX4_order_66 (by decide) ?_
            refine lv_goto (tgt := 71) hx hb dX4_order_67 (by decide) ?_
            obtain ⟨x45, V45, hc45, hc⟩ := b2_some hc
            refine gc_VI (n := 1) (q0 := 0) (ci := 4) (w' := MW cy a V45) hx hb hml hown hts hK hP hD hS hA hl.1 ⟨Nat.le_refl _, Nat.le_refl _⟩ (C_X4_reads l D cy a V2 3 x45 V45 hc45) gX4_order_X4_reads rfl (by decide +kernel) rfl ⟨by decide, by decide⟩ Jn.same rfl rfl rfl (Nat.le_of_ble_eq_true rfl) dX4_order_71 (fun H locs hP hD hS => ?_)
            refine lv_if_ne (tgt := 83) hx hb dX4_order_74 (by decide) (fun c46 => ?_) (fun c46 => ?_)
            · replace hc := ite_f c46 hc
              refine lv_aload_n hx hb dX4_order_83 rfl (lv_at hl 2 rfl) ?_
              refine lv_iload_n hx hb dX4_order_84 rfl (lv_at hl 1 rfl) ?_
              obtain ⟨x47, V47, hc47, hc⟩ := b2_some hc
              refine gc_VI (n := 1) (q0 := 0) (ci := 4) (w' := MW cy a V47) hx hb hml hown hts hK hP hD hS hA hl.1 ⟨Nat.le_refl _, Nat.le_refl _⟩ (C_X4_does l D cy a V45 x1 x47 V47 hc47) gX4_order_X4_does rfl (by decide +kernel) rfl ⟨by decide, by decide⟩ Jn.same rfl rfl rfl (Nat.le_of_ble_eq_true rfl) dX4_order_85 (fun H locs hP hD hS => ?_)
              refine lv_istore_n (lv' := [(3, .int x47), (2, .int 1), (1, .int x1), (0, .ref (a 0))]) hx hb dX4_order_88 rfl hl (by decide) rfl (fun ls hl => ?_)
              refine lv_aload_n hx hb dX4_order_89 rfl (lv_at hl 3 rfl) ?_
              refine lv_iload_n hx hb dX4_order_90 rfl (lv_at hl 0 rfl) ?_
              refine lv_iconst (v := (-1)) hx hb dX4_order_91 (by decide) ?_
              refine lv_icmp_ne (tgt := 99) hx hb dX4_order_92 (by decide) (fun c48 => ?_) (fun c48 => ?_)
              · replace hc := ite_f c48 hc
                refine lv_iload_n hx hb dX4_order_99 rfl (lv_at hl 0 rfl) ?_
                refine lv_if_ge (tgt := 107) hx hb dX4_order_100 (by decide) (fun c49 => ?_) (fun c49 => ?_)
                · replace hc := ite_t c49 hc
                  refine lv_iconst (v := 0) hx hb dX4_order_107 (by decide) ?_
                  obtain ⟨V50, eV50, hc⟩ := lt1_some hc
                  refine g_put (ci := 4) (C := RX4) (T := TX4) (N := 12) (w' := MW cy a V50) hx hb hts inw_X4 tyX4 tyX4_ok nmX4 hown hK hP hD hS 0 rfl rfl 8 (by decide) fl_143 (fun _ h9 => h9) rfl (by decide +kernel) (Nat.le_of_ble_eq_true rfl) (by rw [← eV50]; rfl) dX4_order_108 (fun H locs hP hD hS => ?_)
                  exact hend H locs _ _ _ (some_one hc) hP hD hS dX4_order_111
                · replace hc := ite_f c49 hc
                  refine lv_iconst (v := 3) hx hb dX4_order_103 (by decide) ?_
                  refine lv_goto (tgt := 108) hx hb dX4_order_104 (by decide) ?_
                  obtain ⟨V51, eV51, hc⟩ := lt1_some hc
                  refine g_put (ci := 4) (C := RX4) (T := TX4) (N := 12) (w' := MW cy a V51) hx hb hts inw_X4 tyX4 tyX4_ok nmX4 hown hK hP hD hS 0 rfl rfl 8 (by decide) fl_143 (fun _ h9 => h9) rfl (by decide +kernel) (Nat.le_of_ble_eq_true rfl) (by rw [← eV51]; rfl) dX4_order_108 (fun H locs hP hD hS => ?_)
                  exact hend H locs _ _ _ (some_one hc) hP hD hS dX4_order_111
              · replace hc := ite_t c48 hc
                refine lv_iconst (v := 2) hx hb dX4_order_95 (by decide) ?_
                refine lv_goto (tgt := 108) hx hb dX4_order_96 (by decide) ?_
                obtain ⟨V52, eV52, hc⟩ := lt1_some hc
                refine g_put (ci := 4) (C := RX4) (T := TX4) (N := 12) (w' := MW cy a V52) hx hb hts inw_X4 tyX4 tyX4_ok nmX4 hown hK hP hD hS 0 rfl rfl 8 (by decide) fl_143 (fun _ h9 => h9) rfl (by decide +kernel) (Nat.le_of_ble_eq_true rfl) (by rw [← eV52]; rfl) dX4_order_108 (fun H locs hP hD hS => ?_)
                exact hend H locs _ _ _ (some_one hc) hP hD hS dX4_order_111
            · replace hc := ite_t c46 hc
              refine lv_aload_n hx hb dX4_order_77 rfl (lv_at hl 2 rfl) ?_
              refine lv_iconst (v := 1) hx hb dX4_order_78 (by decide) ?_
              obtain ⟨V53, eV53, hc⟩ := lt1_some hc
              refine g_put (ci := 4) (C := RX4) (T := TX4) (N := 12) (w' := MW cy a V53) hx hb hts inw_X4 tyX4 tyX4_ok nmX4 hown hK hP hD hS 0 rfl rfl 8 (by decide) fl_143 (fun _ h9 => h9) rfl (by decide +kernel) (Nat.le_of_ble_eq_true rfl) (by rw [← eV53]; rfl) dX4_order_79 (fun H locs hP hD hS => ?_)
              exact hend H locs _ _ _ (some_one hc) hP hD hS dX4_order_82
        · replace hc := ite_t c34 hc
          refine lv_iconst (v := 1) hx hb dX4_order_56 (by decide) ?_
          refine lv_goto (tgt := 71) hx hb dX4_order_57 (by decide) ?_
          obtain ⟨x54, V54, hc54, hc⟩ := b2_some hc
          refine gc_VI (n := 1) (q0 := 0) (ci := 4) (w' := MW cy a V54) hx hb hml hown hts hK hP hD hS hA hl.1 ⟨Nat.le_refl _, Nat.le_refl _⟩ (C_X4_reads l D cy a V2 1 x54 V54 hc54) gX4_order_X4_reads rfl (by decide +kernel) rfl ⟨by decide, by decide⟩ Jn.same rfl rfl rfl (Nat.le_of_ble_eq_true rfl) dX4_order_71 (fun H locs hP hD hS => ?_)
          refine lv_if_ne (tgt := 83) hx hb dX4_order_74 (by decide) (fun c55 => ?_) (fun c55 => ?_)
          · replace hc := ite_f c55 hc
            refine lv_aload_n hx hb dX4_order_83 rfl (lv_at hl 2 rfl) ?_
            refine lv_iload_n hx hb dX4_order_84 rfl (lv_at hl 1 rfl) ?_
            obtain ⟨x56, V56, hc56, hc⟩ := b2_some hc
            refine gc_VI (n := 1) (q0 := 0) (ci := 4) (w' := MW cy a V56) hx hb hml hown hts hK hP hD hS hA hl.1 ⟨Nat.le_refl _, Nat.le_refl _⟩ (C_X4_does l D cy a V54 x1 x56 V56 hc56) gX4_order_X4_does rfl (by decide +kernel) rfl ⟨by decide, by decide⟩ Jn.same rfl rfl rfl (Nat.le_of_ble_eq_true rfl) dX4_order_85 (fun H locs hP hD hS => ?_)
            refine lv_istore_n (lv' := [(3, .int x56), (2, .int 1), (1, .int x1), (0, .ref (a 0))]) hx hb dX4_order_88 rfl hl (by decide) rfl (fun ls hl => ?_)
            refine lv_aload_n hx hb dX4_order_89 rfl (lv_at hl 3 rfl) ?_
            refine lv_iload_n hx hb dX4_order_90 rfl (lv_at hl 0 rfl) ?_
            refine lv_iconst (v := (-1)) hx hb dX4_order_91 (by decide) ?_
            refine lv_icmp_ne (tgt := 99) hx hb dX4_order_92 (by decide) (fun c57 => ?_) (fun c57 => ?_)
            · replace hc := ite_f c57 hc
              refine lv_iload_n hx hb dX4_order_99 rfl (lv_at hl 0 rfl) ?_
              refine lv_if_ge (tgt := 107) hx hb dX4_order_100 (by decide) (fun c58 => ?_) (fun c58 => ?_)
              · replace hc := ite_t c58 hc
                refine lv_iconst (v := 0) hx hb dX4_order_107 (by decide) ?_
                obtain ⟨V59, eV59, hc⟩ := lt1_some hc
                refine g_put (ci := 4) (C := RX4) (T := TX4) (N := 12) (w' := MW cy a V59) hx hb hts inw_X4 tyX4 tyX4_ok nmX4 hown hK hP hD hS 0 rfl rfl 8 (by decide) fl_143 (fun _ h9 => h9) rfl (by decide +kernel) (Nat.le_of_ble_eq_true rfl) (by rw [← eV59]; rfl) dX4_order_108 (fun H locs hP hD hS => ?_)
                exact hend H locs _ _ _ (some_one hc) hP hD hS dX4_order_111
              · replace hc := ite_f c58 hc
                refine lv_iconst (v := 3) hx hb dX4_order_103 (by decide) ?_
                refine lv_goto (tgt := 108) hx hb dX4_order_104 (by decide) ?_
                obtain ⟨V60, eV60, hc⟩ := lt1_some hc
                refine g_put (ci := 4) (C := RX4) (T := TX4) (N := 12) (w' := MW cy a V60) hx hb hts inw_X4 tyX4 tyX4_ok nmX4 hown hK hP hD hS 0 rfl rfl 8 (by decide) fl_143 (fun _ h9 => h9) rfl (by decide +kernel) (Nat.le_of_ble_eq_true rfl) (by rw [← eV60]; rfl) dX4_order_108 (fun H locs hP hD hS => ?_)
                exact hend H locs _ _ _ (some_one hc) hP hD hS dX4_order_111
            · replace hc := ite_t c57 hc
              refine lv_iconst (v := 2) hx hb dX4_order_95 (by decide) ?_
              refine lv_goto (tgt := 108) hx hb dX4_order_96 (by decide) ?_
              obtain ⟨V61, eV61, hc⟩ := lt1_some hc
              refine g_put (ci := 4) (C := RX4) (T := TX4) (N := 12) (w' := MW cy a V61) hx hb hts inw_X4 tyX4 tyX4_ok nmX4 hown hK hP hD hS 0 rfl rfl 8 (by decide) fl_143 (fun _ h9 => h9) rfl (by decide +kernel) (Nat.le_of_ble_eq_true rfl) (by rw [← eV61]; rfl) dX4_order_108 (fun H locs hP hD hS => ?_)
              exact hend H locs _ _ _ (some_one hc) hP hD hS dX4_order_111
          · replace hc := ite_t c55 hc
            refine lv_aload_n hx hb dX4_order_77 rfl (lv_at hl 2 rfl) ?_
            refine lv_iconst (v := 1) hx hb dX4_order_78 (by decide) ?_
            obtain ⟨V62, eV62, hc⟩ := lt1_some hc
            refine g_put (ci := 4) (C := RX4) (T := TX4) (N := 12) (w' := MW cy a V62) hx hb hts inw_X4 tyX4 tyX4_ok nmX4 hown hK hP hD hS 0 rfl rfl 8 (by decide) fl_143 (fun _ h9 => h9) rfl (by decide +kernel) (Nat.le_of_ble_eq_true rfl) (by rw [← eV62]; rfl) dX4_order_79 (fun H locs hP hD hS => ?_)
            exact hend H locs _ _ _ (some_one hc) hP hD hS dX4_order_82
      · replace hc := ite_f c33 hc
        refine lv_iload_n hx hb dX4_order_27 rfl (lv_at hl 0 rfl) ?_
        refine lv_bipush (v := 116) hx hb dX4_order_28 (by decide +kernel) ?_
        refine lv_icmp_eq (tgt := 39) hx hb dX4_order_30 (by decide) (fun c63 => ?_) (fun c63 => ?_)
        · replace hc := ite_t c63 hc
          refine lv_iconst (v := 1) hx hb dX4_order_39 (by decide) ?_
          refine lv_goto (tgt := 44) hx hb dX4_order_40 (by decide) ?_
          refine lv_istore_n (lv' := [(2, .int 1), (1, .int x1), (0, .ref (a 0))]) hx hb dX4_order_44 rfl hl (by decide) rfl (fun ls hl => ?_)
          refine lv_iload_n hx hb dX4_order_45 rfl (lv_at hl 0 rfl) ?_
          refine lv_if_eq (tgt := 77) hx hb dX4_order_46 (by decide) (fun c9 => absurd c9 (by decide)) (fun _ => ?_)
          refine lv_aload_n hx hb dX4_order_49 rfl (lv_at hl 2 rfl) ?_
          refine lv_iload_n hx hb dX4_order_50 rfl (lv_at hl 1 rfl) ?_
          refine lv_bipush (v := 116) hx hb dX4_order_51 (by decide +kernel) ?_
          refine lv_icmp_ne (tgt := 60) hx hb dX4_order_53 (by decide) (fun c64 => ?_) (fun c64 => ?_)
          · replace hc := ite_f c64 hc
            refine lv_iload_n hx hb dX4_order_60 rfl (lv_at hl 1 rfl) ?_
            refine lv_bipush (v := 110) hx hb dX4_order_61 (by decide +kernel) ?_
            refine lv_icmp_ne (tgt := 70) hx hb dX4_order_63 (by decide) (fun c65 => ?_) (fun c65 => ?_)
            · replace hc := ite_f c65 hc
              refine lv_iconst (v := 2) hx hb dX4_order_70 (by decide) ?_
              obtain ⟨x66, V66, hc66, hc⟩ := b2_some hc
              refine gc_VI (n := 1) (q0 := 0) (ci := 4) (w' := MW cy a V66) hx hb hml hown hts hK hP hD hS hA hl.1 ⟨Nat.le_refl _, Nat.le_refl _⟩ (C_X4_reads l D cy a V2 2 x66 V66 hc66) gX4_order_X4_reads rfl (by decide +kernel) rfl ⟨by decide, by decide⟩ Jn.same rfl rfl rfl (Nat.le_of_ble_eq_true rfl) dX4_order_71 (fun H locs hP hD hS => ?_)
              refine lv_if_ne (tgt := 83) hx hb dX4_order_74 (by decide) (fun c67 => ?_) (fun c67 => ?_)
              · replace hc := ite_f c67 hc
                refine lv_aload_n hx hb dX4_order_83 rfl (lv_at hl 2 rfl) ?_
                refine lv_iload_n hx hb dX4_order_84 rfl (lv_at hl 1 rfl) ?_
                obtain ⟨x68, V68, hc68, hc⟩ := b2_some hc
                refine gc_VI (n := 1) (q0 := 0) (ci := 4) (w' := MW cy a V68) hx hb hml hown hts hK hP hD hS hA hl.1 ⟨Nat.le_refl _, Nat.le_refl _⟩ (C_X4_does l D cy a V66 x1 x68 V68 hc68) gX4_order_X4_does rfl (by decide +kernel) rfl ⟨by decide, by decide⟩ Jn.same rfl rfl rfl (Nat.le_of_ble_eq_true rfl) dX4_order_85 (fun H locs hP hD hS => ?_)
                refine lv_istore_n (lv' := [(3, .int x68), (2, .int 1), (1, .int x1), (0, .ref (a 0))]) hx hb dX4_order_88 rfl hl (by decide) rfl (fun ls hl => ?_)
                refine lv_aload_n hx hb dX4_order_89 rfl (lv_at hl 3 rfl) ?_
                refine lv_iload_n hx hb dX4_order_90 rfl (lv_at hl 0 rfl) ?_
                refine lv_iconst (v := (-1)) hx hb dX4_order_91 (by decide) ?_
                refine lv_icmp_ne (tgt := 99) hx hb dX4_order_92 (by decide) (fun c69 => ?_) (fun c69 => ?_)
                · replace hc := ite_f c69 hc
                  refine lv_iload_n hx hb dX4_order_99 rfl (lv_at hl 0 rfl) ?_
                  refine lv_if_ge (tgt := 107) hx hb dX4_order_100 (by decide) (fun c70 => ?_) (fun c70 => ?_)
                  · replace hc := ite_t c70 hc
                    refine lv_iconst (v := 0) hx hb dX4_order_107 (by decide) ?_
                    obtain ⟨V71, eV71, hc⟩ := lt1_some hc
                    refine g_put (ci := 4) (C := RX4) (T := TX4) (N := 12) (w' := MW cy a V71) hx hb hts inw_X4 tyX4 tyX4_ok nmX4 hown hK hP hD hS 0 rfl rfl 8 (by decide) fl_143 (fun _ h9 => h9) rfl (by decide +kernel) (Nat.le_of_ble_eq_true rfl) (by rw [← eV71]; rfl) dX4_order_108 (fun H locs hP hD hS => ?_)
                    exact hend H locs _ _ _ (some_one hc) hP hD hS dX4_order_111
                  · replace hc := ite_f c70 hc
                    refine lv_iconst (v := 3) hx hb dX4_order_103 (by decide) ?_
                    refine lv_goto (tgt := 108) hx hb dX4_order_104 (by decide) ?_
                    obtain ⟨V72, eV72, hc⟩ := lt1_some hc
                    refine g_put (ci := 4) (C := RX4) (T := TX4) (N := 12) (w' := MW cy a V72) hx hb hts inw_X4 tyX4 tyX4_ok nmX4 hown hK hP hD hS 0 rfl rfl 8 (by decide) fl_143 (fun _ h9 => h9) rfl (by decide +kernel) (Nat.le_of_ble_eq_true rfl) (by rw [← eV72]; rfl) dX4_order_108 (fun H locs hP hD hS => ?_)
                    exact hend H locs _ _ _ (some_one hc) hP hD hS dX4_order_111
                · replace hc := ite_t c69 hc
                  refine lv_iconst (v := 2) hx hb dX4_order_95 (by decide) ?_
                  refine lv_goto (tgt := 108) hx hb dX4_order_96 (by decide) ?_
                  obtain ⟨V73, eV73, hc⟩ := lt1_some hc
                  refine g_put (ci := 4) (C := RX4) (T := TX4) (N := 12) (w' := MW cy a V73) hx hb hts inw_X4 tyX4 tyX4_ok nmX4 hown hK hP hD hS 0 rfl rfl 8 (by decide) fl_143 (fun _ h9 => h9) rfl (by decide +kernel) (Nat.le_of_ble_eq_true rfl) (by rw [← eV73]; rfl) dX4_order_108 (fun H locs hP hD hS => ?_)
                  exact hend H locs _ _ _ (some_one hc) hP hD hS dX4_order_111
              · replace hc := ite_t c67 hc
                refine lv_aload_n hx hb dX4_order_77 rfl (lv_at hl 2 rfl) ?_
                refine lv_iconst (v := 1) hx hb dX4_order_78 (by decide) ?_
                obtain ⟨V74, eV74, hc⟩ := lt1_some hc
                refine g_put (ci := 4) (C := RX4) (T := TX4) (N := 12) (w' := MW cy a V74) hx hb hts inw_X4 tyX4 tyX4_ok nmX4 hown hK hP hD hS 0 rfl rfl 8 (by decide) fl_143 (fun _ h9 => h9) rfl (by decide +kernel) (Nat.le_of_ble_eq_true rfl) (by rw [← eV74]; rfl) dX4_order_79 (fun H locs hP hD hS => ?_)
                exact hend H locs _ _ _ (some_one hc) hP hD hS dX4_order_82
            · replace hc := ite_t c65 hc
              refine lv_iconst (v := 3) hx hb dX4_order_66 (by decide) ?_
              refine lv_goto (tgt := 71) hx hb dX4_order_67 (by decide) ?_
              obtain ⟨x75, V75, hc75, hc⟩ := b2_some hc
              refine gc_VI (n := 1) (q0 := 0) (ci := 4) (w' := MW cy a V75) hx hb hml hown hts hK hP hD hS hA hl.1 ⟨Nat.le_refl _, Nat.le_refl _⟩ (C_X4_reads l D cy a V2 3 x75 V75 hc75) gX4_order_X4_reads rfl (by decide +kernel) rfl ⟨by decide, by decide⟩ Jn.same rfl rfl rfl (Nat.le_of_ble_eq_true rfl) dX4_order_71 (fun H locs hP hD hS => ?_)
              refine lv_if_ne (tgt := 83) hx hb dX4_order_74 (by decide) (fun c76 => ?_) (fun c76 => ?_)
              · replace hc := ite_f c76 hc
                refine lv_aload_n hx hb dX4_order_83 rfl (lv_at hl 2 rfl) ?_
                refine lv_iload_n hx hb dX4_order_84 rfl (lv_at hl 1 rfl) ?_
                obtain ⟨x77, V77, hc77, hc⟩ := b2_some hc
                refine gc_VI (n := 1) (q0 := 0) (ci := 4) (w' := MW cy a V77) hx hb hml hown hts hK hP hD hS hA hl.1 ⟨Nat.le_refl _, Nat.le_refl _⟩ (C_X4_does l D cy a V75 x1 x77 V77 hc77) gX4_order_X4_does rfl (by decide +kernel) rfl ⟨by decide, by decide⟩ Jn.same rfl rfl rfl (Nat.le_of_ble_eq_true rfl) dX4_order_85 (fun H locs hP hD hS => ?_)
                refine lv_istore_n (lv' := [(3, .int x77), (2, .int 1), (1, .int x1), (0, .ref (a 0))]) hx hb dX4_order_88 rfl hl (by decide) rfl (fun ls hl => ?_)
                refine lv_aload_n hx hb dX4_order_89 rfl (lv_at hl 3 rfl) ?_
                refine lv_iload_n hx hb dX4_order_90 rfl (lv_at hl 0 rfl) ?_
                refine lv_iconst (v := (-1)) hx hb dX4_order_91 (by decide) ?_
                refine lv_icmp_ne (tgt := 99) hx hb dX4_order_92 (by decide) (fun c78 => ?_) (fun c78 => ?_)
                · replace hc := ite_f c78 hc
                  refine lv_iload_n hx hb dX4_order_99 rfl (lv_at hl 0 rfl) ?_
                  refine lv_if_ge (tgt := 107) hx hb dX4_order_100 (by decide) (fun c79 => ?_) (fun c79 => ?_)
                  · replace hc := ite_t c79 hc
                    refine lv_iconst (v := 0) hx hb dX4_order_107 (by decide) ?_
                    obtain ⟨V80, eV80, hc⟩ := lt1_some hc
                    refine g_put (ci := 4) (C := RX4) (T := TX4) (N := 12) (w' := MW cy a V80) hx hb hts inw_X4 tyX4 tyX4_ok nmX4 hown hK hP hD hS 0 rfl rfl 8 (by decide) fl_143 (fun _ h9 => h9) rfl (by decide +kernel) (Nat.le_of_ble_eq_true rfl) (by rw [← eV80]; rfl) dX4_order_108 (fun H locs hP hD hS => ?_)
                    exact hend H locs _ _ _ (some_one hc) hP hD hS dX4_order_111
                  · replace hc := ite_f c79 hc
                    refine lv_iconst (v := 3) hx hb dX4_order_103 (by decide) ?_
                    refine lv_goto (tgt := 108) hx hb dX4_order_104 (by decide) ?_
                    obtain ⟨V81, eV81, hc⟩ := lt1_some hc
                    refine g_put (ci := 4) (C := RX4) (T := TX4) (N := 12) (w' := MW cy a V81) hx hb hts inw_X4 tyX4 tyX4_ok nmX4 hown hK hP hD hS 0 rfl rfl 8 (by decide) fl_143 (fun _ h9 => h9) rfl (by decide +kernel) (Nat.le_of_ble_eq_true rfl) (by rw [← eV81]; rfl) dX4_order_108 (fun H locs hP hD hS => ?_)
                    exact hend H locs _ _ _ (some_one hc) hP hD hS dX4_order_111
                · replace hc := ite_t c78 hc
                  refine lv_iconst (v := 2) hx hb dX4_order_95 (by decide) ?_
                  refine lv_goto (tgt := 108) hx hb dX4_order_96 (by decide) ?_
                  obtain ⟨V82, eV82, hc⟩ := lt1_some hc
                  refine g_put (ci := 4) (C := RX4) (T := TX4) (N := 12) (w' := MW cy a V82) hx hb hts inw_X4 tyX4 tyX4_ok nmX4 hown hK hP hD hS 0 rfl rfl 8 (by decide) fl_143 (fun _ h9 => h9) rfl (by decide +kernel) (Nat.le_of_ble_eq_true rfl) (by rw [← eV82]; rfl) dX4_order_108 (fun H locs hP hD hS => ?_)
                  exact hend H locs _ _ _ (some_one hc) hP hD hS dX4_order_111
              · replace hc := ite_t c76 hc
                refine lv_aload_n hx hb dX4_order_77 rfl (lv_at hl 2 rfl) ?_
                refine lv_iconst (v := 1) hx hb dX4_order_78 (by decide) ?_
                obtain ⟨V83, eV83, hc⟩ := lt1_some hc
                refine g_put (ci := 4) (C := RX4) (T := TX4) (N := 12) (w' := MW cy a V83) hx hb hts inw_X4 tyX4 tyX4_ok nmX4 hown hK hP hD hS 0 rfl rfl 8 (by decide) fl_143 (fun _ h9 => h9) rfl (by decide +kernel) (Nat.le_of_ble_eq_true rfl) (by rw [← eV83]; rfl) dX4_order_79 (fun H locs hP hD hS => ?_)
                exact hend H locs _ _ _ (some_one hc) hP hD hS dX4_order_82
          · replace hc := ite_t c64 hc
            refine lv_iconst (v := 1) hx hb dX4_order_56 (by decide) ?_
            refine lv_goto (tgt := 71) hx hb dX4_order_57 (by decide) ?_
            obtain ⟨x84, V84, hc84, hc⟩ := b2_some hc
            refine gc_VI (n := 1) (q0 := 0) (ci := 4) (w' := MW cy a V84) hx hb hml hown hts hK hP hD hS hA hl.1 ⟨Nat.le_refl _, Nat.le_refl _⟩ (C_X4_reads l D cy a V2 1 x84 V84 hc84) gX4_order_X4_reads rfl (by decide +kernel) rfl ⟨by decide, by decide⟩ Jn.same rfl rfl rfl (Nat.le_of_ble_eq_true rfl) dX4_order_71 (fun H locs hP hD hS => ?_)
            refine lv_if_ne (tgt := 83) hx hb dX4_order_74 (by decide) (fun c85 => ?_) (fun c85 => ?_)
            · replace hc := ite_f c85 hc
              refine lv_aload_n hx hb dX4_order_83 rfl (lv_at hl 2 rfl) ?_
              refine lv_iload_n hx hb dX4_order_84 rfl (lv_at hl 1 rfl) ?_
              obtain ⟨x86, V86, hc86, hc⟩ := b2_some hc
              refine gc_VI (n := 1) (q0 := 0) (ci := 4) (w' := MW cy a V86) hx hb hml hown hts hK hP hD hS hA hl.1 ⟨Nat.le_refl _, Nat.le_refl _⟩ (C_X4_does l D cy a V84 x1 x86 V86 hc86) gX4_order_X4_does rfl (by decide +kernel) rfl ⟨by decide, by decide⟩ Jn.same rfl rfl rfl (Nat.le_of_ble_eq_true rfl) dX4_order_85 (fun H locs hP hD hS => ?_)
              refine lv_istore_n (lv' := [(3, .int x86), (2, .int 1), (1, .int x1), (0, .ref (a 0))]) hx hb dX4_order_88 rfl hl (by decide) rfl (fun ls hl => ?_)
              refine lv_aload_n hx hb dX4_order_89 rfl (lv_at hl 3 rfl) ?_
              refine lv_iload_n hx hb dX4_order_90 rfl (lv_at hl 0 rfl) ?_
              refine lv_iconst (v := (-1)) hx hb dX4_order_91 (by decide) ?_
              refine lv_icmp_ne (tgt := 99) hx hb dX4_order_92 (by decide) (fun c87 => ?_) (fun c87 => ?_)
              · replace hc := ite_f c87 hc
                refine lv_iload_n hx hb dX4_order_99 rfl (lv_at hl 0 rfl) ?_
                refine lv_if_ge (tgt := 107) hx hb dX4_order_100 (by decide) (fun c88 => ?_) (fun c88 => ?_)
                · replace hc := ite_t c88 hc
                  refine lv_iconst (v := 0) hx hb dX4_order_107 (by decide) ?_
                  obtain ⟨V89, eV89, hc⟩ := lt1_some hc
                  refine g_put (ci := 4) (C := RX4) (T := TX4) (N := 12) (w' := MW cy a V89) hx hb hts inw_X4 tyX4 tyX4_ok nmX4 hown hK hP hD hS 0 rfl rfl 8 (by decide) fl_143 (fun _ h9 => h9) rfl (by decide +kernel) (Nat.le_of_ble_eq_true rfl) (by rw [← eV89]; rfl) dX4_order_108 (fun H locs hP hD hS => ?_)
                  exact hend H locs _ _ _ (some_one hc) hP hD hS dX4_order_111
                · replace hc := ite_f c88 hc
                  refine lv_iconst (v := 3) hx hb dX4_order_103 (by decide) ?_
                  refine lv_goto (tgt := 108) hx hb dX4_order_104 (by decide) ?_
                  obtain ⟨V90, eV90, hc⟩ := lt1_some hc
                  refine g_put (ci := 4) (C := RX4) (T := TX4) (N := 12) (w' := MW cy a V90) hx hb hts inw_X4 tyX4 tyX4_ok nmX4 hown hK hP hD hS 0 rfl rfl 8 (by decide) fl_143 (fun _ h9 => h9) rfl (by decide +kernel) (Nat.le_of_ble_eq_true rfl) (by rw [← eV90]; rfl) dX4_order_108 (fun H locs hP hD hS => ?_)
                  exact hend H locs _ _ _ (some_one hc) hP hD hS dX4_order_111
              · replace hc := ite_t c87 hc
                refine lv_iconst (v := 2) hx hb dX4_order_95 (by decide) ?_
                refine lv_goto (tgt := 108) hx hb dX4_order_96 (by decide) ?_
                obtain ⟨V91, eV91, hc⟩ := lt1_some hc
                refine g_put (ci := 4) (C := RX4) (T := TX4) (N := 12) (w' := MW cy a V91) hx hb hts inw_X4 tyX4 tyX4_ok nmX4 hown hK hP hD hS 0 rfl rfl 8 (by decide) fl_143 (fun _ h9 => h9) rfl (by decide +kernel) (Nat.le_of_ble_eq_true rfl) (by rw [← eV91]; rfl) dX4_order_108 (fun H locs hP hD hS => ?_)
                exact hend H locs _ _ _ (some_one hc) hP hD hS dX4_order_111
            · replace hc := ite_t c85 hc
              refine lv_aload_n hx hb dX4_order_77 rfl (lv_at hl 2 rfl) ?_
              refine lv_iconst (v := 1) hx hb dX4_order_78 (by decide) ?_
              obtain ⟨V92, eV92, hc⟩ := lt1_some hc
              refine g_put (ci := 4) (C := RX4) (T := TX4) (N := 12) (w' := MW cy a V92) hx hb hts inw_X4 tyX4 tyX4_ok nmX4 hown hK hP hD hS 0 rfl rfl 8 (by decide) fl_143 (fun _ h9 => h9) rfl (by decide +kernel) (Nat.le_of_ble_eq_true rfl) (by rw [← eV92]; rfl) dX4_order_79 (fun H locs hP hD hS => ?_)
              exact hend H locs _ _ _ (some_one hc) hP hD hS dX4_order_82
        · replace hc := ite_f c63 hc
          refine lv_iload_n hx hb dX4_order_33 rfl (lv_at hl 0 rfl) ?_
          refine lv_bipush (v := 110) hx hb dX4_order_34 (by decide +kernel) ?_
          refine lv_icmp_ne (tgt := 43) hx hb dX4_order_36 (by decide) (fun c93 => ?_) (fun c93 => ?_)
          · replace hc := ite_f c93 hc
            refine lv_iconst (v := 0) hx hb dX4_order_43 (by decide) ?_
            refine lv_istore_n (lv' := [(2, .int 0), (1, .int x1), (0, .ref (a 0))]) hx hb dX4_order_44 rfl hl (by decide) rfl (fun ls hl => ?_)
            refine lv_iload_n hx hb dX4_order_45 rfl (lv_at hl 0 rfl) ?_
            refine lv_if_eq (tgt := 77) hx hb dX4_order_46 (by decide) (fun _ => ?_) (fun c9 => absurd c9 (by decide))
            refine lv_aload_n hx hb dX4_order_77 rfl (lv_at hl 2 rfl) ?_
            refine lv_iconst (v := 1) hx hb dX4_order_78 (by decide) ?_
            obtain ⟨V94, eV94, hc⟩ := lt1_some hc
            refine g_put (ci := 4) (C := RX4) (T := TX4) (N := 12) (w' := MW cy a V94) hx hb hts inw_X4 tyX4 tyX4_ok nmX4 hown hK hP hD hS 0 rfl rfl 8 (by decide) fl_143 (fun _ h9 => h9) rfl (by decide +kernel) (Nat.le_of_ble_eq_true rfl) (by rw [← eV94]; rfl) dX4_order_79 (fun H locs hP hD hS => ?_)
            exact hend H locs _ _ _ (some_one hc) hP hD hS dX4_order_82
          · replace hc := ite_t c93 hc
            refine lv_iconst (v := 1) hx hb dX4_order_39 (by decide) ?_
            refine lv_goto (tgt := 44) hx hb dX4_order_40 (by decide) ?_
            refine lv_istore_n (lv' := [(2, .int 1), (1, .int x1), (0, .ref (a 0))]) hx hb dX4_order_44 rfl hl (by decide) rfl (fun ls hl => ?_)
            refine lv_iload_n hx hb dX4_order_45 rfl (lv_at hl 0 rfl) ?_
            refine lv_if_eq (tgt := 77) hx hb dX4_order_46 (by decide) (fun c9 => absurd c9 (by decide)) (fun _ => ?_)
            refine lv_aload_n hx hb dX4_order_49 rfl (lv_at hl 2 rfl) ?_
            refine lv_iload_n hx hb dX4_order_50 rfl (lv_at hl 1 rfl) ?_
            refine lv_bipush (v := 116) hx hb dX4_order_51 (by decide +kernel) ?_
            refine lv_icmp_ne (tgt := 60) hx hb dX4_order_53 (by decide) (fun c95 => ?_) (fun c95 => ?_)
            · replace hc := ite_f c95 hc
              refine lv_iload_n hx hb dX4_order_60 rfl (lv_at hl 1 rfl) ?_
              refine lv_bipush (v := 110) hx hb dX4_order_61 (by decide +kernel) ?_
              refine lv_icmp_ne (tgt := 70) hx hb dX4_order_63 (by decide) (fun c96 => ?_) (fun c96 => ?_)
              · replace hc := ite_f c96 hc
                refine lv_iconst (v := 2) hx hb dX4_order_70 (by decide) ?_
                obtain ⟨x97, V97, hc97, hc⟩ := b2_some hc
                refine gc_VI (n := 1) (q0 := 0) (ci := 4) (w' := MW cy a V97) hx hb hml hown hts hK hP hD hS hA hl.1 ⟨Nat.le_refl _, Nat.le_refl _⟩ (C_X4_reads l D cy a V2 2 x97 V97 hc97) gX4_order_X4_reads rfl (by decide +kernel) rfl ⟨by decide, by decide⟩ Jn.same rfl rfl rfl (Nat.le_of_ble_eq_true rfl) dX4_order_71 (fun H locs hP hD hS => ?_)
                refine lv_if_ne (tgt := 83) hx hb dX4_order_74 (by decide) (fun c98 => ?_) (fun c98 => ?_)
                · replace hc := ite_f c98 hc
                  refine lv_aload_n hx hb dX4_order_83 rfl (lv_at hl 2 rfl) ?_
                  refine lv_iload_n hx hb dX4_order_84 rfl (lv_at hl 1 rfl) ?_
                  obtain ⟨x99, V99, hc99, hc⟩ := b2_some hc
                  refine gc_VI (n := 1) (q0 := 0) (ci := 4) (w' := MW cy a V99) hx hb hml hown hts hK hP hD hS hA hl.1 ⟨Nat.le_refl _, Nat.le_refl _⟩ (C_X4_does l D cy a V97 x1 x99 V99 hc99) gX4_order_X4_does rfl (by decide +kernel) rfl ⟨by decide, by decide⟩ Jn.same rfl rfl rfl (Nat.le_of_ble_eq_true rfl) dX4_order_85 (fun H locs hP hD hS => ?_)
                  refine lv_istore_n (lv' := [(3, .int x99), (2, .int 1), (1, .int x1), (0, .ref (a 0))]) hx hb dX4_order_88 rfl hl (by decide) rfl (fun ls hl => ?_)
                  refine lv_aload_n hx hb dX4_order_89 rfl (lv_at hl 3 rfl) ?_
                  refine lv_iload_n hx hb dX4_order_90 rfl (lv_at hl 0 rfl) ?_
                  refine lv_iconst (v := (-1)) hx hb dX4_order_91 (by decide) ?_
                  refine lv_icmp_ne (tgt := 99) hx hb dX4_order_92 (by decide) (fun c100 => ?_) (fun c100 => ?_)
                  · replace hc := ite_f c100 hc
                    refine lv_iload_n hx hb dX4_order_99 rfl (lv_at hl 0 rfl) ?_
                    refine lv_if_ge (tgt := 107) hx hb dX4_order_100 (by decide) (fun c101 => ?_) (fun c101 => ?_)
                    · replace hc := ite_t c101 hc
                      refine lv_iconst (v := 0) hx hb dX4_order_107 (by decide) ?_
                      obtain ⟨V102, eV102, hc⟩ := lt1_some hc
                      refine g_put (ci := 4) (C := RX4) (T := TX4) (N := 12) (w' := MW cy a V102) hx hb hts inw_X4 tyX4 tyX4_ok nmX4 hown hK hP hD hS 0 rfl rfl 8 (by decide) fl_143 (fun _ h9 => h9) rfl (by decide +kernel) (Nat.le_of_ble_eq_true rfl) (by rw [← eV102]; rfl) dX4_order_108 (fun H locs hP hD hS => ?_)
                      exact hend H locs _ _ _ (some_one hc) hP hD hS dX4_order_111
                    · replace hc := ite_f c101 hc
                      refine lv_iconst (v := 3) hx hb dX4_order_103 (by decide) ?_
                      refine lv_goto (tgt := 108) hx hb dX4_order_104 (by decide) ?_
                      obtain ⟨V103, eV103, hc⟩ := lt1_some hc
                      refine g_put (ci := 4) (C := RX4) (T := TX4) (N := 12) (w' := MW cy a V103) hx hb hts inw_X4 tyX4 tyX4_ok nmX4 hown hK hP hD hS 0 rfl rfl 8 (by decide) fl_143 (fun _ h9 => h9) rfl (by decide +kernel) (Nat.le_of_ble_eq_true rfl) (by rw [← eV103]; rfl) dX4_order_108 (fun H locs hP hD hS => ?_)
                      exact hend H locs _ _ _ (some_one hc) hP hD hS dX4_order_111
                  · replace hc := ite_t c100 hc
                    refine lv_iconst (v := 2) hx hb dX4_order_95 (by decide) ?_
                    refine lv_goto (tgt := 108) hx hb dX4_order_96 (by decide) ?_
                    obtain ⟨V104, eV104, hc⟩ := lt1_some hc
                    refine g_put (ci := 4) (C := RX4) (T := TX4) (N := 12) (w' := MW cy a V104) hx hb hts inw_X4 tyX4 tyX4_ok nmX4 hown hK hP hD hS 0 rfl rfl 8 (by decide) fl_143 (fun _ h9 => h9) rfl (by decide +kernel) (Nat.le_of_ble_eq_true rfl) (by rw [← eV104]; rfl) dX4_order_108 (fun H locs hP hD hS => ?_)
                    exact hend H locs _ _ _ (some_one hc) hP hD hS dX4_order_111
                · replace hc := ite_t c98 hc
                  refine lv_aload_n hx hb dX4_order_77 rfl (lv_at hl 2 rfl) ?_
                  refine lv_iconst (v := 1) hx hb dX4_order_78 (by decide) ?_
                  obtain ⟨V105, eV105, hc⟩ := lt1_some hc
                  refine g_put (ci := 4) (C := RX4) (T := TX4) (N := 12) (w' := MW cy a V105) hx hb hts inw_X4 tyX4 tyX4_ok nmX4 hown hK hP hD hS 0 rfl rfl 8 (by decide) fl_143 (fun _ h9 => h9) rfl (by decide +kernel) (Nat.le_of_ble_eq_true rfl) (by rw [← eV105]; rfl) dX4_order_79 (fun H locs hP hD hS => ?_)
                  exact hend H locs _ _ _ (some_one hc) hP hD hS dX4_order_82
              · replace hc := ite_t c96 hc
                refine lv_iconst (v := 3) hx hb dX4_order_66 (by decide) ?_
                refine lv_goto (tgt := 71) hx hb dX4_order_67 (by decide) ?_
                obtain ⟨x106, V106, hc106, hc⟩ := b2_some hc
                refine gc_VI (n := 1) (q0 := 0) (ci := 4) (w' := MW cy a V106) hx hb hml hown hts hK hP hD hS hA hl.1 ⟨Nat.le_refl _, Nat.le_refl _⟩ (C_X4_reads l D cy a V2 3 x106 V106 hc106) gX4_order_X4_reads rfl (by decide +kernel) rfl ⟨by decide, by decide⟩ Jn.same rfl rfl rfl (Nat.le_of_ble_eq_true rfl) dX4_order_71 (fun H locs hP hD hS => ?_)
                refine lv_if_ne (tgt := 83) hx hb dX4_order_74 (by decide) (fun c107 => ?_) (fun c107 => ?_)
                · replace hc := ite_f c107 hc
                  refine lv_aload_n hx hb dX4_order_83 rfl (lv_at hl 2 rfl) ?_
                  refine lv_iload_n hx hb dX4_order_84 rfl (lv_at hl 1 rfl) ?_
                  obtain ⟨x108, V108, hc108, hc⟩ := b2_some hc
                  refine gc_VI (n := 1) (q0 := 0) (ci := 4) (w' := MW cy a V108) hx hb hml hown hts hK hP hD hS hA hl.1 ⟨Nat.le_refl _, Nat.le_refl _⟩ (C_X4_does l D cy a V106 x1 x108 V108 hc108) gX4_order_X4_does rfl (by decide +kernel) rfl ⟨by decide, by decide⟩ Jn.same rfl rfl rfl (Nat.le_of_ble_eq_true rfl) dX4_order_85 (fun H locs hP hD hS => ?_)
                  refine lv_istore_n (lv' := [(3, .int x108), (2, .int 1), (1, .int x1), (0, .ref (a 0))]) hx hb dX4_order_88 rfl hl (by decide) rfl (fun ls hl => ?_)
                  refine lv_aload_n hx hb dX4_order_89 rfl (lv_at hl 3 rfl) ?_
                  refine lv_iload_n hx hb dX4_order_90 rfl (lv_at hl 0 rfl) ?_
                  refine lv_iconst (v := (-1)) hx hb dX4_order_91 (by decide) ?_
                  refine lv_icmp_ne (tgt := 99) hx hb dX4_order_92 (by decide) (fun c109 => ?_) (fun c109 => ?_)
                  · replace hc := ite_f c109 hc
                    refine lv_iload_n hx hb dX4_order_99 rfl (lv_at hl 0 rfl) ?_
                    refine lv_if_ge (tgt := 107) hx hb dX4_order_100 (by decide) (fun c110 => ?_) (fun c110 => ?_)
                    · replace hc := ite_t c110 hc
                      refine lv_iconst (v := 0) hx hb dX4_order_107 (by decide) ?_
                      obtain ⟨V111, eV111, hc⟩ := lt1_some hc
                      refine g_put (ci := 4) (C := RX4) (T := TX4) (N := 12) (w' := MW cy a V111) hx hb hts inw_X4 tyX4 tyX4_ok nmX4 hown hK hP hD hS 0 rfl rfl 8 (by decide) fl_143 (fun _ h9 => h9) rfl (by decide +kernel) (Nat.le_of_ble_eq_true rfl) (by rw [← eV111]; rfl) dX4_order_108 (fun H locs hP hD hS => ?_)
                      exact hend H locs _ _ _ (some_one hc) hP hD hS dX4_order_111
                    · replace hc := ite_f c110 hc
                      refine lv_iconst (v := 3) hx hb dX4_order_103 (by decide) ?_
                      refine lv_goto (tgt := 108) hx hb dX4_order_104 (by decide) ?_
                      obtain ⟨V112, eV112, hc⟩ := lt1_some hc
                      refine g_put (ci := 4) (C := RX4) (T := TX4) (N := 12) (w' := MW cy a V112) hx hb hts inw_X4 tyX4 tyX4_ok nmX4 hown hK hP hD hS 0 rfl rfl 8 (by decide) fl_143 (fun _ h9 => h9) rfl (by decide +kernel) (Nat.le_of_ble_eq_true rfl) (by rw [← eV112]; rfl) dX4_order_108 (fun H locs hP hD hS => ?_)
                      exact hend H locs _ _ _ (some_one hc) hP hD hS dX4_order_111
                  · replace hc := ite_t c109 hc
                    refine lv_iconst (v := 2) hx hb dX4_order_95 (by decide) ?_
                    refine lv_goto (tgt := 108) hx hb dX4_order_96 (by decide) ?_
                    obtain ⟨V113, eV113, hc⟩ := lt1_some hc
                    refine g_put (ci := 4) (C := RX4) (T := TX4) (N := 12) (w' := MW cy a V113) hx hb hts inw_X4 tyX4 tyX4_ok nmX4 hown hK hP hD hS 0 rfl rfl 8 (by decide) fl_143 (fun _ h9 => h9) rfl (by decide +kernel) (Nat.le_of_ble_eq_true rfl) (by rw [← eV113]; rfl) dX4_order_108 (fun H locs hP hD hS => ?_)
                    exact hend H locs _ _ _ (some_one hc) hP hD hS dX4_order_111
                · replace hc := ite_t c107 hc
                  refine lv_aload_n hx hb dX4_order_77 rfl (lv_at hl 2 rfl) ?_
                  refine lv_iconst (v := 1) hx hb dX4_order_78 (by decide) ?_
                  obtain ⟨V114, eV114, hc⟩ := lt1_some hc
                  refine g_put (ci := 4) (C := RX4) (T := TX4) (N := 12) (w' := MW cy a V114) hx hb hts inw_X4 tyX4 tyX4_ok nmX4 hown hK hP hD hS 0 rfl rfl 8 (by decide) fl_143 (fun _ h9 => h9) rfl (by decide +kernel) (Nat.le_of_ble_eq_true rfl) (by rw [← eV114]; rfl) dX4_order_79 (fun H locs hP hD hS => ?_)
                  exact hend H locs _ _ _ (some_one hc) hP hD hS dX4_order_82
            · replace hc := ite_t c95 hc
              refine lv_iconst (v := 1) hx hb dX4_order_56 (by decide) ?_
              refine lv_goto (tgt := 71) hx hb dX4_order_57 (by decide) ?_
              obtain ⟨x115, V115, hc115, hc⟩ := b2_some hc
              refine gc_VI (n := 1) (q0 := 0) (ci := 4) (w' := MW cy a V115) hx hb hml hown hts hK hP hD hS hA hl.1 ⟨Nat.le_refl _, Nat.le_refl _⟩ (C_X4_reads l D cy a V2 1 x115 V115 hc115) gX4_order_X4_reads rfl (by decide +kernel) rfl ⟨by decide, by decide⟩ Jn.same rfl rfl rfl (Nat.le_of_ble_eq_true rfl) dX4_order_71 (fun H locs hP hD hS => ?_)
              refine lv_if_ne (tgt := 83) hx hb dX4_order_74 (by decide) (fun c116 => ?_) (fun c116 => ?_)
              · replace hc := ite_f c116 hc
                refine lv_aload_n hx hb dX4_order_83 rfl (lv_at hl 2 rfl) ?_
                refine lv_iload_n hx hb dX4_order_84 rfl (lv_at hl 1 rfl) ?_
                obtain ⟨x117, V117, hc117, hc⟩ := b2_some hc
                refine gc_VI (n := 1) (q0 := 0) (ci := 4) (w' := MW cy a V117) hx hb hml hown hts hK hP hD hS hA hl.1 ⟨Nat.le_refl _, Nat.le_refl _⟩ (C_X4_does l D cy a V115 x1 x117 V117 hc117) gX4_order_X4_does rfl (by decide +kernel) rfl ⟨by decide, by decide⟩ Jn.same rfl rfl rfl (Nat.le_of_ble_eq_true rfl) dX4_order_85 (fun H locs hP hD hS => ?_)
                refine lv_istore_n (lv' := [(3, .int x117), (2, .int 1), (1, .int x1), (0, .ref (a 0))]) hx hb dX4_order_88 rfl hl (by decide) rfl (fun ls hl => ?_)
                refine lv_aload_n hx hb dX4_order_89 rfl (lv_at hl 3 rfl) ?_
                refine lv_iload_n hx hb dX4_order_90 rfl (lv_at hl 0 rfl) ?_
                refine lv_iconst (v := (-1)) hx hb dX4_order_91 (by decide) ?_
                refine lv_icmp_ne (tgt := 99) hx hb dX4_order_92 (by decide) (fun c118 => ?_) (fun c118 => ?_)
                · replace hc := ite_f c118 hc
                  refine lv_iload_n hx hb dX4_order_99 rfl (lv_at hl 0 rfl) ?_
                  refine lv_if_ge (tgt := 107) hx hb dX4_order_100 (by decide) (fun c119 => ?_) (fun c119 => ?_)
                  · replace hc := ite_t c119 hc
                    refine lv_iconst (v := 0) hx hb dX4_order_107 (by decide) ?_
                    obtain ⟨V120, eV120, hc⟩ := lt1_some hc
                    refine g_put (ci := 4) (C := RX4) (T := TX4) (N := 12) (w' := MW cy a V120) hx hb hts inw_X4 tyX4 tyX4_ok nmX4 hown hK hP hD hS 0 rfl rfl 8 (by decide) fl_143 (fun _ h9 => h9) rfl (by decide +kernel) (Nat.le_of_ble_eq_true rfl) (by rw [← eV120]; rfl) dX4_order_108 (fun H locs hP hD hS => ?_)
                    exact hend H locs _ _ _ (some_one hc) hP hD hS dX4_order_111
                  · replace hc := ite_f c119 hc
                    refine lv_iconst (v := 3) hx hb dX4_order_103 (by decide) ?_
                    refine lv_goto (tgt := 108) hx hb dX4_order_104 (by decide) ?_
                    obtain ⟨V121, eV121, hc⟩ := lt1_some hc
                    refine g_put (ci := 4) (C := RX4) (T := TX4) (N := 12) (w' := MW cy a V121) hx hb hts inw_X4 tyX4 tyX4_ok nmX4 hown hK hP hD hS 0 rfl rfl 8 (by decide) fl_143 (fun _ h9 => h9) rfl (by decide +kernel) (Nat.le_of_ble_eq_true rfl) (by rw [← eV121]; rfl) dX4_order_108 (fun H locs hP hD hS => ?_)
                    exact hend H locs _ _ _ (some_one hc) hP hD hS dX4_order_111
                · replace hc := ite_t c118 hc
                  refine lv_iconst (v := 2) hx hb dX4_order_95 (by decide) ?_
                  refine lv_goto (tgt := 108) hx hb dX4_order_96 (by decide) ?_
                  obtain ⟨V122, eV122, hc⟩ := lt1_some hc
                  refine g_put (ci := 4) (C := RX4) (T := TX4) (N := 12) (w' := MW cy a V122) hx hb hts inw_X4 tyX4 tyX4_ok nmX4 hown hK hP hD hS 0 rfl rfl 8 (by decide) fl_143 (fun _ h9 => h9) rfl (by decide +kernel) (Nat.le_of_ble_eq_true rfl) (by rw [← eV122]; rfl) dX4_order_108 (fun H locs hP hD hS => ?_)
                  exact hend H locs _ _ _ (some_one hc) hP hD hS dX4_order_111
              · replace hc := ite_t c116 hc
                refine lv_aload_n hx hb dX4_order_77 rfl (lv_at hl 2 rfl) ?_
                refine lv_iconst (v := 1) hx hb dX4_order_78 (by decide) ?_
                obtain ⟨V123, eV123, hc⟩ := lt1_some hc
                refine g_put (ci := 4) (C := RX4) (T := TX4) (N := 12) (w' := MW cy a V123) hx hb hts inw_X4 tyX4 tyX4_ok nmX4 hown hK hP hD hS 0 rfl rfl 8 (by decide) fl_143 (fun _ h9 => h9) rfl (by decide +kernel) (Nat.le_of_ble_eq_true rfl) (by rw [← eV123]; rfl) dX4_order_79 (fun H locs hP hD hS => ?_)
                exact hend H locs _ _ _ (some_one hc) hP hD hS dX4_order_82
  rw [hHe, hLe] at goal0
  exact goal0
