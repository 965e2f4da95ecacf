set_option maxHeartbeats 4000000 in
set_option maxRecDepth 100000 in
theorem C_X4_requests (l : Launch) (D : va_G) (cy : Nat → ClassId) (a : Nat → Nat) (V : FV) (p1 : Int32) (p2 : Int32) (r : Int32) (V' : FV) (hc : f_X4_requests V p1 p2 = some (r, V')) : ConI l yX4_requests wsX4_requests 3 71 D cy (MW cy a) [.ref (a 0), .int p1, .int p2] V V' r := by
  refine bodyI (cc := cX4_requests) (maxL := 4) (ty := .int) (by decide +kernel) rfl (Nat.le_of_ble_eq_true rfl) ?_
  intro p e s m args below meth c A Q hx hb hml hts hown hK hP hD hA hS hend ls hl
  have hown : s.vm.findClass RX4 = some m.cls := hown
  have hP : va_P D vwCl (MW cy a V) s.heap := hP
  have hD : va_D A (MW cy a V) := hD
  have hl : lv_has ls 4 [(0, .ref (a 0)), (1, .int p1), (2, .int p2)] := hl
  have hend : ∀ (H : Heap) (locs : List Loc) (pc : Nat) (ls : Array Slot) (v : Int32) (V : FV), v = r → V = V' → narrow .int (.int v) = .int v → va_P D vwCl (MW cy a V) H → va_D A (MW cy a V) → va_S A s.heap H locs → decode cX4_requests pc = .ok (.ireturn, 1) → W p l e (RM 3 71) s m args below meth c H locs 0 0 Q (F0 m pc ls [.int v]) := fun H locs pc ls v V h1 h2 h3 h4 h5 h6 h7 => hend H locs pc ls v V h1 h2 h3 h4 h5 h6 h7
  have fl_7 := hts (.fieldLink RX4 7 "NoonWellsModel" "now" "[I") (by decide +kernel)
  have inw_X4 := (by decide +kernel : ∀ w ∈ u_ws RX4 TX4 12, w ∈ wsX4_requests)
  obtain ⟨H, hHe⟩ : ∃ H : Heap, H = s.heap := ⟨_, rfl⟩
  obtain ⟨locs, hLe⟩ : ∃ x : List Loc, x = [] := ⟨_, rfl⟩
  have hP : va_P D vwCl (MW cy a V) H := by rw [hHe]; exact hP
  have hS : va_S A s.heap H locs := by rw [hHe, hLe]; exact hS
  have goal0 : W p l e (RM 3 71) s m args below meth c H locs 0 0 Q (F0 m 0 ls []) := by
    refine lv_aload_n hx hb dX4_requests_0 rfl (lv_at hl 0 rfl) ?_
    refine lv_iload_n hx hb dX4_requests_1 rfl (lv_at hl 1 rfl) ?_
    obtain ⟨x1, hc1, hc⟩ := b1_some hc
    refine gc_VI (n := 1) (q0 := 0) (ci := 4) (w' := MW cy a V) hx hb hml hown hts hK hP hD hS hA hl.1 ⟨Nat.le_refl _, Nat.le_refl _⟩ (C_X4_isWell l D cy a V p1 x1 hc1) gX4_requests_X4_isWell rfl (by decide +kernel) rfl ⟨by decide, by decide⟩ Jn.same rfl rfl rfl (Nat.le_of_ble_eq_true rfl) dX4_requests_2 (fun H locs hP hD hS => ?_)
    refine lv_if_eq (tgt := 15) hx hb dX4_requests_5 (by decide) (fun c2 => ?_) (fun c2 => ?_)
    · replace hc := ite_t c2 hc
      refine lv_iconst (v := (-1)) hx hb dX4_requests_15 (by decide) ?_
      exact hend H locs _ _ _ _ (some_fst hc) (some_snd hc) rfl hP hD hS dX4_requests_16
    · replace hc := ite_f c2 hc
      refine lv_iload_n hx hb dX4_requests_8 rfl (lv_at hl 2 rfl) ?_
      obtain ⟨x3, hc3, hc⟩ := b1_some hc
      refine gc_SI (n := 1) (w' := MW cy a V) hx hb hml hown hts hK hP hD hS hA hl.1 ⟨Nat.le_refl _, Nat.le_refl _⟩ (C_X4_isDraw l D cy p2 x3 hc3) gX4_requests_X4_isDraw rfl (by decide +kernel) rfl ⟨by decide, by decide⟩ Jn.none rfl (Nat.le_of_ble_eq_true rfl) dX4_requests_9 (fun H locs hP hD hS => ?_)
      refine lv_if_ne (tgt := 17) hx hb dX4_requests_12 (by decide) (fun c4 => ?_) (fun c4 => ?_)
      · replace hc := ite_f c4 hc
        refine lv_aload_n hx hb dX4_requests_17 rfl (lv_at hl 0 rfl) ?_
        refine va_get (ci := 4) (v := .ref (a 1)) (C := RX4) (T := TX4) (N := 12) hx hb hts inw_X4 hown hK.1 hP 0 rfl rfl 0 (by decide) fl_7 (fun _ h9 => h9) rfl dX4_requests_18 ?_
        refine lv_iconst (v := 5) hx hb dX4_requests_21 (by decide) ?_
        refine g_iald (x := V 1 5) hx hb hK hP 1 rfl (vp_lit (by decide)) rfl dX4_requests_22 ?_
        refine lv_if_ne (tgt := 44) hx hb dX4_requests_23 (by decide) (fun c5 => ?_) (fun c5 => ?_)
        · replace hc := ite_f c5 hc
          refine lv_aload_n hx hb dX4_requests_44 rfl (lv_at hl 0 rfl) ?_
          refine va_get (ci := 4) (v := .ref (a 1)) (C := RX4) (T := TX4) (N := 12) hx hb hts inw_X4 hown hK.1 hP 0 rfl rfl 0 (by decide) fl_7 (fun _ h9 => h9) rfl dX4_requests_45 ?_
          refine lv_iconst (v := 5) hx hb dX4_requests_48 (by decide) ?_
          refine g_iald (x := V 1 5) hx hb hK hP 1 rfl (vp_lit (by decide)) rfl dX4_requests_49 ?_
          refine lv_bipush (v := 8) hx hb dX4_requests_50 (by decide +kernel) ?_
          refine lv_icmp_ne (tgt := 58) hx hb dX4_requests_52 (by decide) (fun c6 => ?_) (fun c6 => ?_)
          · replace hc := ite_f c6 hc
            refine lv_sipush (v := 212) hx hb dX4_requests_58 (by decide +kernel) ?_
            refine lv_iconst (v := 3) hx hb dX4_requests_61 (by decide) ?_
            refine lv_aload_n hx hb dX4_requests_62 rfl (lv_at hl 0 rfl) ?_
            refine va_get (ci := 4) (v := .ref (a 1)) (C := RX4) (T := TX4) (N := 12) hx hb hts inw_X4 hown hK.1 hP 0 rfl rfl 0 (by decide) fl_7 (fun _ h9 => h9) rfl dX4_requests_63 ?_
            refine lv_iconst (v := 5) hx hb dX4_requests_66 (by decide) ?_
            refine g_iald (x := V 1 5) hx hb hK hP 1 rfl (vp_lit (by decide)) rfl dX4_requests_67 ?_
            refine lv_imul hx hb dX4_requests_68 ?_
            refine lv_iadd hx hb dX4_requests_69 ?_
            refine lv_istore_n (lv' := [(3, .int (212 + (3 * (V 1 5)))), (0, .ref (a 0)), (1, .int p1), (2, .int p2)]) hx hb dX4_requests_70 rfl hl (by decide) rfl (fun ls hl => ?_)
            refine lv_aload_n hx hb dX4_requests_71 rfl (lv_at hl 1 rfl) ?_
            refine va_get (ci := 4) (v := .ref (a 1)) (C := RX4) (T := TX4) (N := 12) hx hb hts inw_X4 hown hK.1 hP 0 rfl rfl 0 (by decide) fl_7 (fun _ h9 => h9) rfl dX4_requests_72 ?_
            refine lv_iload_n hx hb dX4_requests_75 rfl (lv_at hl 0 rfl) ?_
            refine lv_iload_n hx hb dX4_requests_76 rfl (lv_at hl 2 rfl) ?_
            obtain ⟨V7, hi7, eV7, hc⟩ := wr_some hc
            refine g_iast (w' := MW cy a V7) hx hb hK hP hD hS 1 rfl hi7 (by rw [← eV7]; rfl) dX4_requests_77 (fun H locs hP hD hS => ?_)
            refine lv_aload_n hx hb dX4_requests_78 rfl (lv_at hl 1 rfl) ?_
            refine va_get (ci := 4) (v := .ref (a 1)) (C := RX4) (T := TX4) (N := 12) hx hb hts inw_X4 hown hK.1 hP 0 rfl rfl 0 (by decide) fl_7 (fun _ h9 => h9) rfl dX4_requests_79 ?_
            refine lv_iload_n hx hb dX4_requests_82 rfl (lv_at hl 0 rfl) ?_
            refine lv_iconst (v := 1) hx hb dX4_requests_83 (by decide) ?_
            refine lv_iadd hx hb dX4_requests_84 ?_
            refine lv_iload_n hx hb dX4_requests_85 rfl (lv_at hl 3 rfl) ?_
            obtain ⟨V8, hi8, eV8, hc⟩ := wr_some hc
            refine g_iast (w' := MW cy a V8) hx hb hK hP hD hS 1 rfl hi8 (by rw [← eV8]; rfl) dX4_requests_86 (fun H locs hP hD hS => ?_)
            refine lv_aload_n hx hb dX4_requests_87 rfl (lv_at hl 1 rfl) ?_
            refine va_get (ci := 4) (v := .ref (a 1)) (C := RX4) (T := TX4) (N := 12) hx hb hts inw_X4 hown hK.1 hP 0 rfl rfl 0 (by decide) fl_7 (fun _ h9 => h9) rfl dX4_requests_88 ?_
            refine lv_iload_n hx hb dX4_requests_91 rfl (lv_at hl 0 rfl) ?_
            refine lv_iconst (v := 2) hx hb dX4_requests_92 (by decide) ?_
            refine lv_iadd hx hb dX4_requests_93 ?_
            refine lv_aload_n hx hb dX4_requests_94 rfl (lv_at hl 1 rfl) ?_
            refine va_get (ci := 4) (v := .ref (a 1)) (C := RX4) (T := TX4) (N := 12) hx hb hts inw_X4 hown hK.1 hP 0 rfl rfl 0 (by decide) fl_7 (fun _ h9 => h9) rfl dX4_requests_95 ?_
            refine lv_iconst (v := 0) hx hb dX4_requests_98 (by decide) ?_
            refine g_iald (x := V8 1 0) hx hb hK hP 1 rfl (vp_lit (by decide)) rfl dX4_requests_99 ?_
            obtain ⟨V9, hi9, eV9, hc⟩ := wr_some hc
            refine g_iast (w' := MW cy a V9) hx hb hK hP hD hS 1 rfl hi9 (by rw [← eV9]; rfl) dX4_requests_100 (fun H locs hP hD hS => ?_)
            refine lv_aload_n hx hb dX4_requests_101 rfl (lv_at hl 1 rfl) ?_
            refine va_get (ci := 4) (v := .ref (a 1)) (C := RX4) (T := TX4) (N := 12) hx hb hts inw_X4 hown hK.1 hP 0 rfl rfl 0 (by decide) fl_7 (fun _ h9 => h9) rfl dX4_requests_102 ?_
            refine lv_iconst (v := 5) hx hb dX4_requests_105 (by decide) ?_
            refine lv_dup2_11 hx hb dX4_requests_106 rfl rfl ?_
            refine g_iald (x := V9 1 5) hx hb hK hP 1 rfl (vp_lit (by decide)) rfl dX4_requests_107 ?_
            refine lv_iconst (v := 1) hx hb dX4_requests_108 (by decide) ?_
            refine lv_iadd hx hb dX4_requests_109 ?_
            obtain ⟨V10, eV10, hc⟩ := lt1_some hc
            refine g_iast (w' := MW cy a V10) hx hb hK hP hD hS 1 rfl (vp_lit (by decide)) (by rw [← eV10]; rfl) dX4_requests_110 (fun H locs hP hD hS => ?_)
            refine lv_aload_n hx hb dX4_requests_111 rfl (lv_at hl 1 rfl) ?_
            refine va_get (ci := 4) (v := .ref (a 1)) (C := RX4) (T := TX4) (N := 12) hx hb hts inw_X4 hown hK.1 hP 0 rfl rfl 0 (by decide) fl_7 (fun _ h9 => h9) rfl dX4_requests_112 ?_
            refine lv_iconst (v := 5) hx hb dX4_requests_115 (by decide) ?_
            refine g_iald (x := V10 1 5) hx hb hK hP 1 rfl (vp_lit (by decide)) rfl dX4_requests_116 ?_
            exact hend H locs _ _ _ _ (some_fst hc) (some_snd hc) rfl hP hD hS dX4_requests_117
          · replace hc := ite_t c6 hc
            refine lv_bipush (v := (-3)) hx hb dX4_requests_55 (by decide +kernel) ?_
            exact hend H locs _ _ _ _ (some_fst hc) (some_snd hc) rfl hP hD hS dX4_requests_57
        · replace hc := ite_t c5 hc
          refine lv_aload_n hx hb dX4_requests_26 rfl (lv_at hl 0 rfl) ?_
          refine lv_iload_n hx hb dX4_requests_27 rfl (lv_at hl 1 rfl) ?_
          obtain ⟨x11, hc11, hc⟩ := b1_some hc
          refine gc_VI (n := 1) (q0 := 0) (ci := 4) (w' := MW cy a V) hx hb hml hown hts hK hP hD hS hA hl.1 ⟨Nat.le_refl _, Nat.le_refl _⟩ (C_X4_ableOf l D cy a V p1 x11 hc11) gX4_requests_X4_ableOf rfl (by decide +kernel) rfl ⟨by decide, by decide⟩ Jn.same rfl rfl rfl (Nat.le_of_ble_eq_true rfl) dX4_requests_28 (fun H locs hP hD hS => ?_)
          refine lv_iload_n hx hb dX4_requests_31 rfl (lv_at hl 2 rfl) ?_
          refine lv_icmp_lt (tgt := 44) hx hb dX4_requests_32 (by decide) (fun c12 => ?_) (fun c12 => ?_)
          · replace hc := ite_t c12 hc
            refine lv_aload_n hx hb dX4_requests_44 rfl (lv_at hl 0 rfl) ?_
            refine va_get (ci := 4) (v := .ref (a 1)) (C := RX4) (T := TX4) (N := 12) hx hb hts inw_X4 hown hK.1 hP 0 rfl rfl 0 (by decide) fl_7 (fun _ h9 => h9) rfl dX4_requests_45 ?_
            refine lv_iconst (v := 5) hx hb dX4_requests_48 (by decide) ?_
            refine g_iald (x := V 1 5) hx hb hK hP 1 rfl (vp_lit (by decide)) rfl dX4_requests_49 ?_
            refine lv_bipush (v := 8) hx hb dX4_requests_50 (by decide +kernel) ?_
            refine lv_icmp_ne (tgt := 58) hx hb dX4_requests_52 (by decide) (fun c13 => ?_) (fun c13 => ?_)
            · replace hc := ite_f c13 hc
              refine lv_sipush (v := 212) hx hb dX4_requests_58 (by decide +kernel) ?_
              refine lv_iconst (v := 3) hx hb dX4_requests_61 (by decide) ?_
              refine lv_aload_n hx hb dX4_requests_62 rfl (lv_at hl 0 rfl) ?_
              refine va_get (ci := 4) (v := .ref (a 1)) (C := RX4) (T := TX4) (N := 12) hx hb hts inw_X4 hown hK.1 hP 0 rfl rfl 0 (by decide) fl_7 (fun _ h9 => h9) rfl dX4_requests_63 ?_
              refine lv_iconst (v := 5) hx hb dX4_requests_66 (by decide) ?_
              refine g_iald (x := V 1 5) hx hb hK hP 1 rfl (vp_lit (by decide)) rfl dX4_requests_67 ?_
              refine lv_imul hx hb dX4_requests_68 ?_
              refine lv_iadd hx hb dX4_requests_69 ?_
              refine lv_istore_n (lv' := [(3, .int (212 + (3 * (V 1 5)))), (0, .ref (a 0)), (1, .int p1), (2, .int p2)]) hx hb dX4_requests_70 rfl hl (by decide) rfl (fun ls hl => ?_)
              refine lv_aload_n hx hb dX4_requests_71 rfl (lv_at hl 1 rfl) ?_
              refine va_get (ci := 4) (v := .ref (a 1)) (C := RX4) (T := TX4) (N := 12) hx hb hts inw_X4 hown hK.1 hP 0 rfl rfl 0 (by decide) fl_7 (fun _ h9 => h9) rfl dX4_requests_72 ?_
              refine lv_iload_n hx hb dX4_requests_75 rfl (lv_at hl 0 rfl) ?_
              refine lv_iload_n hx hb dX4_requests_76 rfl (lv_at hl 2 rfl) ?_
              obtain ⟨V14, hi14, eV14, hc⟩ := wr_some hc
              refine g_iast (w' := MW cy a V14) hx hb hK hP hD hS 1 rfl hi14 (by rw [← eV14]; rfl) dX4_requests_77 (fun H locs hP hD hS => ?_)
              refine lv_aload_n hx hb dX4_requests_78 rfl (lv_at hl 1 rfl) ?_
              refine va_get (ci := 4) (v := .ref (a 1)) (C := RX4) (T := TX4) (N := 12) hx hb hts inw_X4 hown hK.1 hP 0 rfl rfl 0 (by decide) fl_7 (fun _ h9 => h9) rfl dX4_requests_79 ?_
              refine lv_iload_n hx hb dX4_requests_82 rfl (lv_at hl 0 rfl) ?_
              refine lv_iconst (v := 1) hx hb dX4_requests_83 (by decide) ?_
              refine lv_iadd hx hb dX4_requests_84 ?_
              refine lv_iload_n hx hb dX4_requests_85 rfl (lv_at hl 3 rfl) ?_
              obtain ⟨V15, hi15, eV15, hc⟩ := wr_some hc
              refine g_iast (w' := MW cy a V15) hx hb hK hP hD hS 1 rfl hi15 (by rw [← eV15]; rfl) dX4_requests_86 (fun H locs hP hD hS => ?_)
              refine lv_aload_n hx hb dX4_requests_87 rfl (lv_at hl 1 rfl) ?_
              refine va_get (ci := 4) (v := .ref (a 1)) (C := RX4) (T := TX4) (N := 12) hx hb hts inw_X4 hown hK.1 hP 0 rfl rfl 0 (by decide) fl_7 (fun _ h9 => h9) rfl dX4_requests_88 ?_
              refine lv_iload_n hx hb dX4_requests_91 rfl (lv_at hl 0 rfl) ?_
              refine lv_iconst (v := 2) hx hb dX4_requests_92 (by decide) ?_
              refine lv_iadd hx hb dX4_requests_93 ?_
              refine lv_aload_n hx hb dX4_requests_94 rfl (lv_at hl 1 rfl) ?_
              refine va_get (ci := 4) (v := .ref (a 1)) (C := RX4) (T := TX4) (N := 12) hx hb hts inw_X4 hown hK.1 hP 0 rfl rfl 0 (by decide) fl_7 (fun _ h9 => h9) rfl dX4_requests_95 ?_
              refine lv_iconst (v := 0) hx hb dX4_requests_98 (by decide) ?_
              refine g_iald (x := V15 1 0) hx hb hK hP 1 rfl (vp_lit (by decide)) rfl dX4_requests_99 ?_
              obtain ⟨V16, hi16, eV16, hc⟩ := wr_some hc
              refine g_iast (w' := MW cy a V16) hx hb hK hP hD hS 1 rfl hi16 (by rw [← eV16]; rfl) dX4_requests_100 (fun H locs hP hD hS => ?_)
              refine lv_aload_n hx hb dX4_requests_101 rfl (lv_at hl 1 rfl) ?_
              refine va_get (ci := 4) (v := .ref (a 1)) (C := RX4) (T := TX4) (N := 12) hx hb hts inw_X4 hown hK.1 hP 0 rfl rfl 0 (by decide) fl_7 (fun _ h9 => h9) rfl dX4_requests_102 ?_
              refine lv_iconst (v := 5) hx hb dX4_requests_105 (by decide) ?_
              refine lv_dup2_11 hx hb dX4_requests_106 rfl rfl ?_
              refine g_iald (x := V16 1 5) hx hb hK hP 1 rfl (vp_lit (by decide)) rfl dX4_requests_107 ?_
              refine lv_iconst (v := 1) hx hb dX4_requests_108 (by decide) ?_
              refine lv_iadd hx hb dX4_requests_109 ?_
              obtain ⟨V17, eV17, hc⟩ := lt1_some hc
              refine g_iast (w' := MW cy a V17) hx hb hK hP hD hS 1 rfl (vp_lit (by decide)) (by rw [← eV17]; rfl) dX4_requests_110 (fun H locs hP hD hS => ?_)
              refine lv_aload_n hx hb dX4_requests_111 rfl (lv_at hl 1 rfl) ?_
              refine va_get (ci := 4) (v := .ref (a 1)) (C := RX4) (T := TX4) (N := 12) hx hb hts inw_X4 hown hK.1 hP 0 rfl rfl 0 (by decide) fl_7 (fun _ h9 => h9) rfl dX4_requests_112 ?_
              refine lv_iconst (v := 5) hx hb dX4_requests_115 (by decide) ?_
              refine g_iald (x := V17 1 5) hx hb hK hP 1 rfl (vp_lit (by decide)) rfl dX4_requests_116 ?_
              exact hend H locs _ _ _ _ (some_fst hc) (some_snd hc) rfl hP hD hS dX4_requests_117
            · replace hc := ite_t c13 hc
              refine lv_bipush (v := (-3)) hx hb dX4_requests_55 (by decide +kernel) ?_
              exact hend H locs _ _ _ _ (some_fst hc) (some_snd hc) rfl hP hD hS dX4_requests_57
          · replace hc := ite_f c12 hc
            refine lv_aload_n hx hb dX4_requests_35 rfl (lv_at hl 0 rfl) ?_
            refine lv_iload_n hx hb dX4_requests_36 rfl (lv_at hl 1 rfl) ?_
            refine lv_iload_n hx hb dX4_requests_37 rfl (lv_at hl 2 rfl) ?_
            obtain ⟨x18, V18, hc18, hc⟩ := b2_some hc
            refine gc_VI (n := 2) (q0 := 0) (ci := 4) (w' := MW cy a V18) hx hb hml hown hts hK hP hD hS hA hl.1 ⟨Nat.le_refl _, Nat.le_refl _⟩ (C_X4_takes l D cy a V p1 p2 x18 V18 hc18) gX4_requests_X4_takes rfl (by decide +kernel) rfl ⟨by decide, by decide⟩ Jn.same rfl rfl rfl (Nat.le_of_ble_eq_true rfl) dX4_requests_38 (fun H locs hP hD hS => ?_)
            refine lv_pop hx hb dX4_requests_41 rfl ?_
            refine lv_iconst (v := 0) hx hb dX4_requests_42 (by decide) ?_
            exact hend H locs _ _ _ _ (some_fst hc) (some_snd hc) rfl hP hD hS dX4_requests_43
      · replace hc := ite_t c4 hc
        refine lv_iconst (v := (-1)) hx hb dX4_requests_15 (by decide) ?_
        exact hend H locs _ _ _ _ (some_fst hc) (some_snd hc) rfl hP hD hS dX4_requests_16
  rw [hHe, hLe] at goal0
  exact goal0
set_option maxHeartbeats 4000000 in
set_option maxRecDepth 100000 in
theorem C_X4_request (l : Launch) (D : va_G) (cy : Nat → ClassId) (a : Nat → Nat) (V : FV) (p1 : Int32) (p2 : Int32) (r : Int32) (V' : FV) (hc : f_X4_request V p1 p2 = some (r, V')) : ConI l yX4_request wsX4_request 4 94 D cy (MW cy a) [.ref (a 0), .int p1, .int p2] V V' r := by
  refine bodyI (cc := cX4_request) (maxL := 3) (ty := .int) (by decide +kernel) rfl (Nat.le_of_ble_eq_true rfl) ?_
  intro p e s m args below meth c A Q hx hb hml hts hown hK hP hD hA hS hend ls hl
  have hown : s.vm.findClass RX4 = some m.cls := hown
  have hP : va_P D vwCl (MW cy a V) s.heap := hP
  have hD : va_D A (MW cy a V) := hD
  have hl : lv_has ls 3 [(0, .ref (a 0)), (1, .int p1), (2, .int p2)] := hl
  have hend : ∀ (H : Heap) (locs : List Loc) (pc : Nat) (ls : Array Slot) (v : Int32) (V : FV), v = r → V = V' → narrow .int (.int v) = .int v → va_P D vwCl (MW cy a V) H → va_D A (MW cy a V) → va_S A s.heap H locs → decode cX4_request pc = .ok (.ireturn, 1) → W p l e (RM 4 94) s m args below meth c H locs 0 0 Q (F0 m pc ls [.int v]) := fun H locs pc ls v V h1 h2 h3 h4 h5 h6 h7 => hend H locs pc ls v V h1 h2 h3 h4 h5 h6 h7
  obtain ⟨H, hHe⟩ : ∃ H : Heap, H = s.heap := ⟨_, rfl⟩
  obtain ⟨locs, hLe⟩ : ∃ x : List Loc, x = [] := ⟨_, rfl⟩
  have hP : va_P D vwCl (MW cy a V) H := by rw [hHe]; exact hP
  have hS : va_S A s.heap H locs := by rw [hHe, hLe]; exact hS
  have goal0 : W p l e (RM 4 94) s m args below meth c H locs 0 0 Q (F0 m 0 ls []) := by
    refine lv_aload_n hx hb dX4_request_0 rfl (lv_at hl 0 rfl) ?_
    obtain ⟨V1, hc1, hc⟩ := b1_some hc
    refine gc_VV (n := 0) (q0 := 0) (ci := 4) (w' := MW cy a V1) hx hb hml hown hts hK hP hD hS hA hl.1 ⟨Nat.le_refl _, Nat.le_refl _⟩ (C_X4_copy l D cy a V V1 hc1) gX4_request_X4_copy rfl (by decide +kernel) rfl ⟨by decide, by decide⟩ Jn.same rfl rfl rfl (Nat.le_of_ble_eq_true rfl) dX4_request_1 (fun H locs hP hD hS => ?_)
    refine lv_aload_n hx hb dX4_request_4 rfl (lv_at hl 0 rfl) ?_
    refine lv_aload_n hx hb dX4_request_5 rfl (lv_at hl 0 rfl) ?_
    refine lv_iload_n hx hb dX4_request_6 rfl (lv_at hl 1 rfl) ?_
    refine lv_iload_n hx hb dX4_request_7 rfl (lv_at hl 2 rfl) ?_
    obtain ⟨x2, V2, hc2, hc⟩ := b2_some hc
    refine gc_VI (n := 2) (q0 := 0) (ci := 4) (w' := MW cy a V2) hx hb hml hown hts hK hP hD hS hA hl.1 ⟨Nat.le_refl _, Nat.le_refl _⟩ (C_X4_requests l D cy a V1 p1 p2 x2 V2 hc2) gX4_request_X4_requests rfl (by decide +kernel) rfl ⟨by decide, by decide⟩ Jn.same rfl rfl rfl (Nat.le_of_ble_eq_true rfl) dX4_request_8 (fun H locs hP hD hS => ?_)
    obtain ⟨x3, V3, hc3, hc⟩ := b2_some hc
    refine gc_VI (n := 1) (q0 := 0) (ci := 4) (w' := MW cy a V3) hx hb hml hown hts hK hP hD hS hA hl.1 ⟨Nat.le_refl _, Nat.le_refl _⟩ (C_X4_recorded l D cy a V2 x2 x3 V3 hc3) gX4_request_X4_recorded rfl (by decide +kernel) rfl ⟨by decide, by decide⟩ Jn.same rfl rfl rfl (Nat.le_of_ble_eq_true rfl) dX4_request_11 (fun H locs hP hD hS => ?_)
    exact hend H locs _ _ _ _ (some_fst hc) (some_snd hc) rfl hP hD hS dX4_request_14
  rw [hHe, hLe] at goal0
  exact goal0
set_option maxHeartbeats 4000000 in
set_option maxRecDepth 100000 in
theorem C_X4_leaves (l : Launch) (D : va_G) (cy : Nat → ClassId) (a : Nat → Nat) (V : FV) (p1 : Int32) (V' : FV) (hc : f_X4_leaves V p1 = some V') : ConV l yX4_leaves wsX4_leaves 0 0 D cy (MW cy a) [.ref (a 0), .int p1] V V' := by
  refine bodyV (cc := cX4_leaves) (maxL := 3) (by decide +kernel) rfl (Nat.le_of_ble_eq_true rfl) ?_
  intro p e s m args below meth c A Q hx hb hml hts hown hK hP hD hA hS hend ls hl
  have hown : s.vm.findClass RX4 = some m.cls := hown
  have hP : va_P D vwCl (MW cy a V) s.heap := hP
  have hD : va_D A (MW cy a V) := hD
  have hl : lv_has ls 3 [(0, .ref (a 0)), (1, .int p1)] := hl
  have hend : ∀ (H : Heap) (locs : List Loc) (pc : Nat) (ls : Array Slot) (V : FV), V = V' → va_P D vwCl (MW cy a V) H → va_D A (MW cy a V) → va_S A s.heap H locs → decode cX4_leaves pc = .ok (.return_, 1) → W p l e (RM 0 0) s m args below meth c H locs 0 0 Q (F0 m pc ls []) := fun H locs pc ls V h1 h2 h3 h4 h5 => hend H locs pc ls V h1 h2 h3 h4 h5
  have fl_7 := hts (.fieldLink RX4 7 "NoonWellsModel" "now" "[I") (by decide +kernel)
  have inw_X4 := (by decide +kernel : ∀ w ∈ u_ws RX4 TX4 12, w ∈ wsX4_leaves)
  have L18 : ∀ (n : Nat), ∀ (y1 y2 : Int32) (V : FV) (H : Heap) (locs : List Loc) (ls : Array Slot), f_X4_leaves_L18 n y1 y2 V = some V' → va_P D vwCl (MW cy a V) H → va_D A (MW cy a V) → va_S A s.heap H locs → lv_has ls 3 [(0, .ref (a 0)), (1, .int y1), (2, .int y2)] → W p l e (RM 0 0) s m args below meth c H locs 0 0 Q (F0 m 18 ls []) := by
    intro n
    induction n with
    | zero =>
      intro y1 y2 V H locs ls hc
      cases hc
    | succ n ih =>
      intro y1 y2 V H locs ls hc hP hD hS hl
      refine lv_iload_n hx hb dX4_leaves_18 rfl (lv_at hl 2 rfl) ?_
      refine lv_sipush (v := 212) hx hb dX4_leaves_19 (by decide +kernel) ?_
      refine lv_iconst (v := 3) hx hb dX4_leaves_22 (by decide) ?_
      refine lv_aload_n hx hb dX4_leaves_23 rfl (lv_at hl 0 rfl) ?_
      refine va_get (ci := 4) (v := .ref (a 1)) (C := RX4) (T := TX4) (N := 12) hx hb hts inw_X4 hown hK.1 hP 0 rfl rfl 0 (by decide) fl_7 (fun _ h9 => h9) rfl dX4_leaves_24 ?_
      refine lv_iconst (v := 5) hx hb dX4_leaves_27 (by decide) ?_
      refine g_iald (x := V 1 5) hx hb hK hP 1 rfl (vp_lit (by decide)) rfl dX4_leaves_28 ?_
      refine lv_imul hx hb dX4_leaves_29 ?_
      refine lv_iadd hx hb dX4_leaves_30 ?_
      refine lv_icmp_ge (tgt := 54) hx hb dX4_leaves_31 (by decide) (fun c2 => ?_) (fun c2 => ?_)
      · replace hc := ite_t c2 hc
        exact hend H locs _ _ _ (some_one hc) hP hD hS dX4_leaves_54
      · replace hc := ite_f c2 hc
        refine lv_aload_n hx hb dX4_leaves_34 rfl (lv_at hl 0 rfl) ?_
        refine va_get (ci := 4) (v := .ref (a 1)) (C := RX4) (T := TX4) (N := 12) hx hb hts inw_X4 hown hK.1 hP 0 rfl rfl 0 (by decide) fl_7 (fun _ h9 => h9) rfl dX4_leaves_35 ?_
        refine lv_iload_n hx hb dX4_leaves_38 rfl (lv_at hl 2 rfl) ?_
        refine lv_aload_n hx hb dX4_leaves_39 rfl (lv_at hl 0 rfl) ?_
        refine va_get (ci := 4) (v := .ref (a 1)) (C := RX4) (T := TX4) (N := 12) hx hb hts inw_X4 hown hK.1 hP 0 rfl rfl 0 (by decide) fl_7 (fun _ h9 => h9) rfl dX4_leaves_40 ?_
        refine lv_iload_n hx hb dX4_leaves_43 rfl (lv_at hl 2 rfl) ?_
        refine lv_iconst (v := 3) hx hb dX4_leaves_44 (by decide) ?_
        refine lv_iadd hx hb dX4_leaves_45 ?_
        obtain ⟨x3, hi3, hv3, hc⟩ := rd_some hc
        refine g_iald (x := x3) hx hb hK hP 1 rfl hi3 hv3 dX4_leaves_46 ?_
        obtain ⟨V4, hi4, eV4, hc⟩ := wr_some hc
        refine g_iast (w' := MW cy a V4) hx hb hK hP hD hS 1 rfl hi4 (by rw [← eV4]; rfl) dX4_leaves_47 (fun H locs hP hD hS => ?_)
        refine lv_iinc (v := y2 + 1) (lv' := [(2, .int (y2 + 1)), (0, .ref (a 0)), (1, .int y1)]) hx hb dX4_leaves_48 hl (k := 2) rfl rfl (by decide) rfl (fun ls hl => ?_)
        refine lv_goto (tgt := 18) hx hb dX4_leaves_51 (by decide) ?_
        exact ih y1 (y2 + 1) V4 H locs ls hc hP hD hS (lv_sub hl [1, 2, 0] rfl)
  obtain ⟨H, hHe⟩ : ∃ H : Heap, H = s.heap := ⟨_, rfl⟩
  obtain ⟨locs, hLe⟩ : ∃ x : List Loc, x = [] := ⟨_, rfl⟩
  have hP : va_P D vwCl (MW cy a V) H := by rw [hHe]; exact hP
  have hS : va_S A s.heap H locs := by rw [hHe, hLe]; exact hS
  have goal0 : W p l e (RM 0 0) s m args below meth c H locs 0 0 Q (F0 m 0 ls []) := by
    refine lv_aload_n hx hb dX4_leaves_0 rfl (lv_at hl 0 rfl) ?_
    refine va_get (ci := 4) (v := .ref (a 1)) (C := RX4) (T := TX4) (N := 12) hx hb hts inw_X4 hown hK.1 hP 0 rfl rfl 0 (by decide) fl_7 (fun _ h9 => h9) rfl dX4_leaves_1 ?_
    refine lv_iconst (v := 5) hx hb dX4_leaves_4 (by decide) ?_
    refine lv_dup2_11 hx hb dX4_leaves_5 rfl rfl ?_
    refine g_iald (x := V 1 5) hx hb hK hP 1 rfl (vp_lit (by decide)) rfl dX4_leaves_6 ?_
    refine lv_iconst (v := 1) hx hb dX4_leaves_7 (by decide) ?_
    refine lv_isub hx hb dX4_leaves_8 ?_
    obtain ⟨V1, eV1, hc⟩ := lt1_some hc
    refine g_iast (w' := MW cy a V1) hx hb hK hP hD hS 1 rfl (vp_lit (by decide)) (by rw [← eV1]; rfl) dX4_leaves_9 (fun H locs hP hD hS => ?_)
    refine lv_sipush (v := 212) hx hb dX4_leaves_10 (by decide +kernel) ?_
    refine lv_iconst (v := 3) hx hb dX4_leaves_13 (by decide) ?_
    refine lv_iload_n hx hb dX4_leaves_14 rfl (lv_at hl 1 rfl) ?_
    refine lv_imul hx hb dX4_leaves_15 ?_
    refine lv_iadd hx hb dX4_leaves_16 ?_
    refine lv_istore_n (lv' := [(2, .int (212 + (3 * p1))), (0, .ref (a 0)), (1, .int p1)]) hx hb dX4_leaves_17 rfl hl (by decide) rfl (fun ls hl => ?_)
    exact L18 FUEL p1 (212 + (3 * p1)) V1 H locs ls hc hP hD hS (lv_sub hl [1, 2, 0] rfl)
  rw [hHe, hLe] at goal0
  exact goal0
set_option maxHeartbeats 4000000 in
set_option maxRecDepth 100000 in
theorem C_X4_cancel (l : Launch) (D : va_G) (cy : Nat → ClassId) (a : Nat → Nat) (V : FV) (p1 : Int32) (r : Int32) (V' : FV) (hc : f_X4_cancel V p1 = some (r, V')) : ConI l yX4_cancel wsX4_cancel 2 43 D cy (MW cy a) [.ref (a 0), .int p1] V V' r := by
  refine bodyI (cc := cX4_cancel) (maxL := 3) (ty := .int) (by decide +kernel) rfl (Nat.le_of_ble_eq_true rfl) ?_
  intro p e s m args below meth c A Q hx hb hml hts hown hK hP hD hA hS hend ls hl
  have hown : s.vm.findClass RX4 = some m.cls := hown
  have hP : va_P D vwCl (MW cy a V) s.heap := hP
  have hD : va_D A (MW cy a V) := hD
  have hl : lv_has ls 3 [(0, .ref (a 0)), (1, .int p1)] := hl
  have hend : ∀ (H : Heap) (locs : List Loc) (pc : Nat) (ls : Array Slot) (v : Int32) (V : FV), v = r → V = V' → narrow .int (.int v) = .int v → va_P D vwCl (MW cy a V) H → va_D A (MW cy a V) → va_S A s.heap H locs → decode cX4_cancel pc = .ok (.ireturn, 1) → W p l e (RM 2 43) s m args below meth c H locs 0 0 Q (F0 m pc ls [.int v]) := fun H locs pc ls v V h1 h2 h3 h4 h5 h6 h7 => hend H locs pc ls v V h1 h2 h3 h4 h5 h6 h7
  have fl_7 := hts (.fieldLink RX4 7 "NoonWellsModel" "now" "[I") (by decide +kernel)
  have inw_X4 := (by decide +kernel : ∀ w ∈ u_ws RX4 TX4 12, w ∈ wsX4_cancel)
  obtain ⟨H, hHe⟩ : ∃ H : Heap, H = s.heap := ⟨_, rfl⟩
  obtain ⟨locs, hLe⟩ : ∃ x : List Loc, x = [] := ⟨_, rfl⟩
  have hP : va_P D vwCl (MW cy a V) H := by rw [hHe]; exact hP
  have hS : va_S A s.heap H locs := by rw [hHe, hLe]; exact hS
  have goal0 : W p l e (RM 2 43) s m args below meth c H locs 0 0 Q (F0 m 0 ls []) := by
    refine lv_aload_n hx hb dX4_cancel_0 rfl (lv_at hl 0 rfl) ?_
    refine lv_iload_n hx hb dX4_cancel_1 rfl (lv_at hl 1 rfl) ?_
    obtain ⟨x1, hc1, hc⟩ := b1_some hc
    refine gc_VI (n := 1) (q0 := 0) (ci := 4) (w' := MW cy a V) hx hb hml hown hts hK hP hD hS hA hl.1 ⟨Nat.le_refl _, Nat.le_refl _⟩ (C_X4_isPlace l D cy a V p1 x1 hc1) gX4_cancel_X4_isPlace rfl (by decide +kernel) rfl ⟨by decide, by decide⟩ Jn.same rfl rfl rfl (Nat.le_of_ble_eq_true rfl) dX4_cancel_2 (fun H locs hP hD hS => ?_)
    refine lv_if_ne (tgt := 10) hx hb dX4_cancel_5 (by decide) (fun c2 => ?_) (fun c2 => ?_)
    · replace hc := ite_f c2 hc
      refine lv_aload_n hx hb dX4_cancel_10 rfl (lv_at hl 0 rfl) ?_
      obtain ⟨V3, hc3, hc⟩ := b1_some hc
      refine gc_VV (n := 0) (q0 := 0) (ci := 4) (w' := MW cy a V3) hx hb hml hown hts hK hP hD hS hA hl.1 ⟨Nat.le_refl _, Nat.le_refl _⟩ (C_X4_copy l D cy a V V3 hc3) gX4_cancel_X4_copy rfl (by decide +kernel) rfl ⟨by decide, by decide⟩ Jn.same rfl rfl rfl (Nat.le_of_ble_eq_true rfl) dX4_cancel_11 (fun H locs hP hD hS => ?_)
      refine lv_aload_n hx hb dX4_cancel_14 rfl (lv_at hl 0 rfl) ?_
      refine va_get (ci := 4) (v := .ref (a 1)) (C := RX4) (T := TX4) (N := 12) hx hb hts inw_X4 hown hK.1 hP 0 rfl rfl 0 (by decide) fl_7 (fun _ h9 => h9) rfl dX4_cancel_15 ?_
      refine lv_sipush (v := 212) hx hb dX4_cancel_18 (by decide +kernel) ?_
      refine lv_iconst (v := 3) hx hb dX4_cancel_21 (by decide) ?_
      refine lv_iload_n hx hb dX4_cancel_22 rfl (lv_at hl 1 rfl) ?_
      refine lv_iconst (v := 1) hx hb dX4_cancel_23 (by decide) ?_
      refine lv_isub hx hb dX4_cancel_24 ?_
      refine lv_imul hx hb dX4_cancel_25 ?_
      refine lv_iadd hx hb dX4_cancel_26 ?_
      refine lv_iconst (v := 1) hx hb dX4_cancel_27 (by decide) ?_
      refine lv_iadd hx hb dX4_cancel_28 ?_
      obtain ⟨x4, hi4, hv4, hc⟩ := rd_some hc
      refine g_iald (x := x4) hx hb hK hP 1 rfl hi4 hv4 dX4_cancel_29 ?_
      refine lv_istore_n (lv' := [(2, .int x4), (0, .ref (a 0)), (1, .int p1)]) hx hb dX4_cancel_30 rfl hl (by decide) rfl (fun ls hl => ?_)
      refine lv_aload_n hx hb dX4_cancel_31 rfl (lv_at hl 1 rfl) ?_
      refine lv_iload_n hx hb dX4_cancel_32 rfl (lv_at hl 2 rfl) ?_
      refine lv_iconst (v := 1) hx hb dX4_cancel_33 (by decide) ?_
      refine lv_isub hx hb dX4_cancel_34 ?_
      obtain ⟨V5, hc5, hc⟩ := b1_some hc
      refine gc_VV (n := 1) (q0 := 0) (ci := 4) (w' := MW cy a V5) hx hb hml hown hts hK hP hD hS hA hl.1 ⟨Nat.le_refl _, Nat.le_refl _⟩ (C_X4_leaves l D cy a V3 (p1 - 1) V5 hc5) gX4_cancel_X4_leaves rfl (by decide +kernel) rfl ⟨by decide, by decide⟩ Jn.same rfl rfl rfl (Nat.le_of_ble_eq_true rfl) dX4_cancel_35 (fun H locs hP hD hS => ?_)
      refine lv_aload_n hx hb dX4_cancel_38 rfl (lv_at hl 1 rfl) ?_
      refine lv_iload_n hx hb dX4_cancel_39 rfl (lv_at hl 0 rfl) ?_
      obtain ⟨x6, V6, hc6, hc⟩ := b2_some hc
      refine gc_VI (n := 1) (q0 := 0) (ci := 4) (w' := MW cy a V6) hx hb hml hown hts hK hP hD hS hA hl.1 ⟨Nat.le_refl _, Nat.le_refl _⟩ (C_X4_recorded l D cy a V5 x4 x6 V6 hc6) gX4_cancel_X4_recorded rfl (by decide +kernel) rfl ⟨by decide, by decide⟩ Jn.same rfl rfl rfl (Nat.le_of_ble_eq_true rfl) dX4_cancel_40 (fun H locs hP hD hS => ?_)
      exact hend H locs _ _ _ _ (some_fst hc) (some_snd hc) rfl hP hD hS dX4_cancel_43
    · replace hc := ite_t c2 hc
      refine lv_iconst (v := (-1)) hx hb dX4_cancel_8 (by decide) ?_
      exact hend H locs _ _ _ _ (some_fst hc) (some_snd hc) rfl hP hD hS dX4_cancel_9
  rw [hHe, hLe] at goal0
  exact goal0
set_option maxHeartbeats 4000000 in
set_option maxRecDepth 100000 in
theorem C_X4_looks (l : Launch) (D : va_G) (cy : Nat → ClassId) (a : Nat → Nat) (V : FV) (V' : FV) (hc : f_X4_looks V = some V') : ConV l yX4_looks wsX4_looks 3 71 D cy (MW cy a) [.ref (a 0)] V V' := by
  refine bodyV (cc := cX4_looks) (maxL := 5) (by decide +kernel) rfl (Nat.le_of_ble_eq_true rfl) ?_
  intro p e s m args below meth c A Q hx hb hml hts hown hK hP hD hA hS hend ls hl
  have hown : s.vm.findClass RX4 = some m.cls := hown
  have hP : va_P D vwCl (MW cy a V) s.heap := hP
  have hD : va_D A (MW cy a V) := hD
  have hl : lv_has ls 5 [(0, .ref (a 0))] := hl
  have hend : ∀ (H : Heap) (locs : List Loc) (pc : Nat) (ls : Array Slot) (V : FV), V = V' → va_P D vwCl (MW cy a V) H → va_D A (MW cy a V) → va_S A s.heap H locs → decode cX4_looks pc = .ok (.return_, 1) → W p l e (RM 3 71) s m args below meth c H locs 0 0 Q (F0 m pc ls []) := fun H locs pc ls V h1 h2 h3 h4 h5 => hend H locs pc ls V h1 h2 h3 h4 h5
  have fl_7 := hts (.fieldLink RX4 7 "NoonWellsModel" "now" "[I") (by decide +kernel)
  have inw_X4 := (by decide +kernel : ∀ w ∈ u_ws RX4 TX4 12, w ∈ wsX4_looks)
  have L4 : ∀ (n : Nat), ∀ (y1 y2 : Int32) (V : FV) (H : Heap) (locs : List Loc) (ls : Array Slot), f_X4_looks_L4 n y1 y2 V = some V' → va_P D vwCl (MW cy a V) H → va_D A (MW cy a V) → va_S A s.heap H locs → lv_has ls 5 [(0, .ref (a 0)), (1, .int y1), (2, .int y2)] → W p l e (RM 3 71) s m args below meth c H locs 0 0 Q (F0 m 4 ls []) := by
    intro n
    induction n with
    | zero =>
      intro y1 y2 V H locs ls hc
      cases hc
    | succ n ih =>
      intro y1 y2 V H locs ls hc hP hD hS hl
      refine lv_iload_n hx hb dX4_looks_4 rfl (lv_at hl 2 rfl) ?_
      refine lv_if_eq (tgt := 106) hx hb dX4_looks_5 (by decide) (fun c1 => ?_) (fun c1 => ?_)
      · replace hc := ite_t c1 hc
        exact hend H locs _ _ _ (some_one hc) hP hD hS dX4_looks_106
      · replace hc := ite_f c1 hc
        refine lv_iload_n hx hb dX4_looks_8 rfl (lv_at hl 1 rfl) ?_
        refine lv_aload_n hx hb dX4_looks_9 rfl (lv_at hl 0 rfl) ?_
        refine va_get (ci := 4) (v := .ref (a 1)) (C := RX4) (T := TX4) (N := 12) hx hb hts inw_X4 hown hK.1 hP 0 rfl rfl 0 (by decide) fl_7 (fun _ h9 => h9) rfl dX4_looks_10 ?_
        refine lv_iconst (v := 5) hx hb dX4_looks_13 (by decide) ?_
        refine g_iald (x := V 1 5) hx hb hK hP 1 rfl (vp_lit (by decide)) rfl dX4_looks_14 ?_
        refine lv_icmp_ge (tgt := 106) hx hb dX4_looks_15 (by decide) (fun c2 => ?_) (fun c2 => ?_)
        · replace hc := ite_t c2 hc
          exact hend H locs _ _ _ (some_one hc) hP hD hS dX4_looks_106
        · replace hc := ite_f c2 hc
          refine lv_aload_n hx hb dX4_looks_18 rfl (lv_at hl 0 rfl) ?_
          refine va_get (ci := 4) (v := .ref (a 1)) (C := RX4) (T := TX4) (N := 12) hx hb hts inw_X4 hown hK.1 hP 0 rfl rfl 0 (by decide) fl_7 (fun _ h9 => h9) rfl dX4_looks_19 ?_
          refine lv_sipush (v := 212) hx hb dX4_looks_22 (by decide +kernel) ?_
          refine lv_iconst (v := 3) hx hb dX4_looks_25 (by decide) ?_
          refine lv_iload_n hx hb dX4_looks_26 rfl (lv_at hl 1 rfl) ?_
          refine lv_imul hx hb dX4_looks_27 ?_
          refine lv_iadd hx hb dX4_looks_28 ?_
          obtain ⟨x3, hi3, hv3, hc⟩ := rd_some hc
          refine g_iald (x := x3) hx hb hK hP 1 rfl hi3 hv3 dX4_looks_29 ?_
          refine lv_istore_n (lv' := [(3, .int x3), (0, .ref (a 0)), (1, .int y1), (2, .int y2)]) hx hb dX4_looks_30 rfl hl (by decide) rfl (fun ls hl => ?_)
          refine lv_aload_n hx hb dX4_looks_31 rfl (lv_at hl 1 rfl) ?_
          refine va_get (ci := 4) (v := .ref (a 1)) (C := RX4) (T := TX4) (N := 12) hx hb hts inw_X4 hown hK.1 hP 0 rfl rfl 0 (by decide) fl_7 (fun _ h9 => h9) rfl dX4_looks_32 ?_
          refine lv_sipush (v := 212) hx hb dX4_looks_35 (by decide +kernel) ?_
          refine lv_iconst (v := 3) hx hb dX4_looks_38 (by decide) ?_
          refine lv_iload_n hx hb dX4_looks_39 rfl (lv_at hl 2 rfl) ?_
          refine lv_imul hx hb dX4_looks_40 ?_
          refine lv_iadd hx hb dX4_looks_41 ?_
          refine lv_iconst (v := 1) hx hb dX4_looks_42 (by decide) ?_
          refine lv_iadd hx hb dX4_looks_43 ?_
          obtain ⟨x4, hi4, hv4, hc⟩ := rd_some hc
          refine g_iald (x := x4) hx hb hK hP 1 rfl hi4 hv4 dX4_looks_44 ?_
          refine lv_istore (lv' := [(4, .int x4), (3, .int x3), (0, .ref (a 0)), (1, .int y1), (2, .int y2)]) hx hb dX4_looks_45 hl (by decide) rfl (fun ls hl => ?_)
          refine lv_aload_n hx hb dX4_looks_47 rfl (lv_at hl 2 rfl) ?_
          refine lv_iload_n hx hb dX4_looks_48 rfl (lv_at hl 1 rfl) ?_
          obtain ⟨x5, hc5, hc⟩ := b1_some hc
          refine gc_VI (n := 1) (q0 := 0) (ci := 4) (w' := MW cy a V) hx hb hml hown hts hK hP hD hS hA hl.1 ⟨Nat.le_refl _, Nat.le_refl _⟩ (C_X4_ableOf l D cy a V x3 x5 hc5) gX4_looks_X4_ableOf rfl (by decide +kernel) rfl ⟨by decide, by decide⟩ Jn.same rfl rfl rfl (Nat.le_of_ble_eq_true rfl) dX4_looks_49 (fun H locs hP hD hS => ?_)
          refine lv_iload hx hb dX4_looks_52 (lv_at hl 0 rfl) ?_
          refine lv_icmp_lt (tgt := 84) hx hb dX4_looks_54 (by decide) (fun c6 => ?_) (fun c6 => ?_)
          · replace hc := ite_t c6 hc
            refine lv_aload_n hx hb dX4_looks_84 rfl (lv_at hl 2 rfl) ?_
            refine va_get (ci := 4) (v := .ref (a 1)) (C := RX4) (T := TX4) (N := 12) hx hb hts inw_X4 hown hK.1 hP 0 rfl rfl 0 (by decide) fl_7 (fun _ h9 => h9) rfl dX4_looks_85 ?_
            refine lv_iconst (v := 2) hx hb dX4_looks_88 (by decide) ?_
            refine g_iald (x := V 1 2) hx hb hK hP 1 rfl (vp_lit (by decide)) rfl dX4_looks_89 ?_
            refine lv_iconst (v := 1) hx hb dX4_looks_90 (by decide) ?_
            refine lv_icmp_ne (tgt := 98) hx hb dX4_looks_91 (by decide) (fun c7 => ?_) (fun c7 => ?_)
            · replace hc := ite_f c7 hc
              refine lv_iconst (v := 0) hx hb dX4_looks_98 (by decide) ?_
              refine lv_istore_n (lv' := [(2, .int 0), (4, .int x4), (3, .int x3), (0, .ref (a 0)), (1, .int y1)]) hx hb dX4_looks_99 rfl hl (by decide) rfl (fun ls hl => ?_)
              refine lv_iinc (v := y1 + 1) (lv' := [(1, .int (y1 + 1)), (2, .int 0), (4, .int x4), (3, .int x3), (0, .ref (a 0))]) hx hb dX4_looks_100 hl (k := 4) rfl rfl (by decide) rfl (fun ls hl => ?_)
              refine lv_goto (tgt := 4) hx hb dX4_looks_103 (by decide) ?_
              exact ih (y1 + 1) 0 V H locs ls hc hP hD hS (lv_sub hl [4, 0, 1] rfl)
            · replace hc := ite_t c7 hc
              refine lv_iconst (v := 1) hx hb dX4_looks_94 (by decide) ?_
              refine lv_goto (tgt := 99) hx hb dX4_looks_95 (by decide) ?_
              refine lv_istore_n (lv' := [(2, .int 1), (4, .int x4), (3, .int x3), (0, .ref (a 0)), (1, .int y1)]) hx hb dX4_looks_99 rfl hl (by decide) rfl (fun ls hl => ?_)
              refine lv_iinc (v := y1 + 1) (lv' := [(1, .int (y1 + 1)), (2, .int 1), (4, .int x4), (3, .int x3), (0, .ref (a 0))]) hx hb dX4_looks_100 hl (k := 4) rfl rfl (by decide) rfl (fun ls hl => ?_)
              refine lv_goto (tgt := 4) hx hb dX4_looks_103 (by decide) ?_
              exact ih (y1 + 1) 1 V H locs ls hc hP hD hS (lv_sub hl [4, 0, 1] rfl)
          · replace hc := ite_f c6 hc
            refine lv_aload_n hx hb dX4_looks_57 rfl (lv_at hl 2 rfl) ?_
            refine lv_iload_n hx hb dX4_looks_58 rfl (lv_at hl 1 rfl) ?_
            refine lv_iload hx hb dX4_looks_59 (lv_at hl 0 rfl) ?_
            obtain ⟨x8, V8, hc8, hc⟩ := b2_some hc
            refine gc_VI (n := 2) (q0 := 0) (ci := 4) (w' := MW cy a V8) hx hb hml hown hts hK hP hD hS hA hl.1 ⟨Nat.le_refl _, Nat.le_refl _⟩ (C_X4_takes l D cy a V x3 x4 x8 V8 hc8) gX4_looks_X4_takes rfl (by decide +kernel) rfl ⟨by decide, by decide⟩ Jn.same rfl rfl rfl (Nat.le_of_ble_eq_true rfl) dX4_looks_61 (fun H locs hP hD hS => ?_)
            refine lv_pop hx hb dX4_looks_64 rfl ?_
            refine lv_aload_n hx hb dX4_looks_65 rfl (lv_at hl 2 rfl) ?_
            refine va_get (ci := 4) (v := .ref (a 1)) (C := RX4) (T := TX4) (N := 12) hx hb hts inw_X4 hown hK.1 hP 0 rfl rfl 0 (by decide) fl_7 (fun _ h9 => h9) rfl dX4_looks_66 ?_
            refine lv_bipush (v := 7) hx hb dX4_looks_69 (by decide +kernel) ?_
            refine lv_dup2_11 hx hb dX4_looks_71 rfl rfl ?_
            refine g_iald (x := V8 1 7) hx hb hK hP 1 rfl (vp_lit (by decide)) rfl dX4_looks_72 ?_
            refine lv_iconst (v := 1) hx hb dX4_looks_73 (by decide) ?_
            refine lv_iadd hx hb dX4_looks_74 ?_
            obtain ⟨V9, eV9, hc⟩ := lt1_some hc
            refine g_iast (w' := MW cy a V9) hx hb hK hP hD hS 1 rfl (vp_lit (by decide)) (by rw [← eV9]; rfl) dX4_looks_75 (fun H locs hP hD hS => ?_)
            refine lv_aload_n hx hb dX4_looks_76 rfl (lv_at hl 2 rfl) ?_
            refine lv_iload_n hx hb dX4_looks_77 rfl (lv_at hl 3 rfl) ?_
            obtain ⟨V10, hc10, hc⟩ := b1_some hc
            refine gc_VV (n := 1) (q0 := 0) (ci := 4) (w' := MW cy a V10) hx hb hml hown hts hK hP hD hS hA hl.1 ⟨Nat.le_refl _, Nat.le_refl _⟩ (C_X4_leaves l D cy a V9 y1 V10 hc10) gX4_looks_X4_leaves rfl (by decide +kernel) rfl ⟨by decide, by decide⟩ Jn.same rfl rfl rfl (Nat.le_of_ble_eq_true rfl) dX4_looks_78 (fun H locs hP hD hS => ?_)
            refine lv_goto (tgt := 103) hx hb dX4_looks_81 (by decide) ?_
            refine lv_goto (tgt := 4) hx hb dX4_looks_103 (by decide) ?_
            exact ih y1 y2 V10 H locs ls hc hP hD hS (lv_sub hl [2, 3, 4] rfl)
  obtain ⟨H, hHe⟩ : ∃ H : Heap, H = s.heap := ⟨_, rfl⟩
  obtain ⟨locs, hLe⟩ : ∃ x : List Loc, x = [] := ⟨_, rfl⟩
  have hP : va_P D vwCl (MW cy a V) H := by rw [hHe]; exact hP
  have hS : va_S A s.heap H locs := by rw [hHe, hLe]; exact hS
  have goal0 : W p l e (RM 3 71) s m args below meth c H locs 0 0 Q (F0 m 0 ls []) := by
    refine lv_iconst (v := 0) hx hb dX4_looks_0 (by decide) ?_
    refine lv_istore_n (lv' := [(1, .int 0), (0, .ref (a 0))]) hx hb dX4_looks_1 rfl hl (by decide) rfl (fun ls hl => ?_)
    refine lv_iconst (v := 1) hx hb dX4_looks_2 (by decide) ?_
    refine lv_istore_n (lv' := [(2, .int 1), (1, .int 0), (0, .ref (a 0))]) hx hb dX4_looks_3 rfl hl (by decide) rfl (fun ls hl => ?_)
    exact L4 FUEL 0 1 V H locs ls hc hP hD hS (lv_sub hl [2, 1, 0] rfl)
  rw [hHe, hLe] at goal0
  exact goal0
set_option maxHeartbeats 4000000 in
set_option maxRecDepth 100000 in
theorem C_X4_flows (l : Launch) (D : va_G) (cy : Nat → ClassId) (a : Nat → Nat) (V : FV) (V' : FV) (hc : f_X4_flows V = some V') : ConV l yX4_flows wsX4_flows 2 47 D cy (MW cy a) [.ref (a 0)] V V' := by
  refine bodyV (cc := cX4_flows) (maxL := 4) (by decide +kernel) rfl (Nat.le_of_ble_eq_true rfl) ?_
  intro p e s m args below meth c A Q hx hb hml hts hown hK hP hD hA hS hend ls hl
  have hown : s.vm.findClass RX4 = some m.cls := hown
  have hP : va_P D vwCl (MW cy a V) s.heap := hP
  have hD : va_D A (MW cy a V) := hD
  have hl : lv_has ls 4 [(0, .ref (a 0))] := hl
  have hend : ∀ (H : Heap) (locs : List Loc) (pc : Nat) (ls : Array Slot) (V : FV), V = V' → va_P D vwCl (MW cy a V) H → va_D A (MW cy a V) → va_S A s.heap H locs → decode cX4_flows pc = .ok (.return_, 1) → W p l e (RM 2 47) s m args below meth c H locs 0 0 Q (F0 m pc ls []) := fun H locs pc ls V h1 h2 h3 h4 h5 => hend H locs pc ls V h1 h2 h3 h4 h5
  have fl_7 := hts (.fieldLink RX4 7 "NoonWellsModel" "now" "[I") (by decide +kernel)
  have inw_X4 := (by decide +kernel : ∀ w ∈ u_ws RX4 TX4 12, w ∈ wsX4_flows)
  have L2 : ∀ (n : Nat), ∀ (y1 : Int32) (V : FV) (H : Heap) (locs : List Loc) (ls : Array Slot), f_X4_flows_L2 n y1 V = some V' → va_P D vwCl (MW cy a V) H → va_D A (MW cy a V) → va_S A s.heap H locs → lv_has ls 4 [(0, .ref (a 0)), (1, .int y1)] → W p l e (RM 2 47) s m args below meth c H locs 0 0 Q (F0 m 2 ls []) := by
    intro n
    induction n with
    | zero =>
      intro y1 V H locs ls hc
      cases hc
    | succ n ih =>
      intro y1 V H locs ls hc hP hD hS hl
      refine lv_iload_n hx hb dX4_flows_2 rfl (lv_at hl 1 rfl) ?_
      refine lv_aload_n hx hb dX4_flows_3 rfl (lv_at hl 0 rfl) ?_
      refine va_get (ci := 4) (v := .ref (a 1)) (C := RX4) (T := TX4) (N := 12) hx hb hts inw_X4 hown hK.1 hP 0 rfl rfl 0 (by decide) fl_7 (fun _ h9 => h9) rfl dX4_flows_4 ?_
      refine lv_iconst (v := 3) hx hb dX4_flows_7 (by decide) ?_
      refine g_iald (x := V 1 3) hx hb hK hP 1 rfl (vp_lit (by decide)) rfl dX4_flows_8 ?_
      refine lv_icmp_ge (tgt := 78) hx hb dX4_flows_9 (by decide) (fun c1 => ?_) (fun c1 => ?_)
      · replace hc := ite_t c1 hc
        exact hend H locs _ _ _ (some_one hc) hP hD hS dX4_flows_78
      · replace hc := ite_f c1 hc
        refine lv_aload_n hx hb dX4_flows_12 rfl (lv_at hl 0 rfl) ?_
        refine lv_iload_n hx hb dX4_flows_13 rfl (lv_at hl 1 rfl) ?_
        refine lv_aload_n hx hb dX4_flows_14 rfl (lv_at hl 0 rfl) ?_
        refine va_get (ci := 4) (v := .ref (a 1)) (C := RX4) (T := TX4) (N := 12) hx hb hts inw_X4 hown hK.1 hP 0 rfl rfl 0 (by decide) fl_7 (fun _ h9 => h9) rfl dX4_flows_15 ?_
        refine lv_iconst (v := 0) hx hb dX4_flows_18 (by decide) ?_
        refine g_iald (x := V 1 0) hx hb hK hP 1 rfl (vp_lit (by decide)) rfl dX4_flows_19 ?_
        obtain ⟨x2, hc2, hc⟩ := b1_some hc
        refine gc_VI (n := 2) (q0 := 0) (ci := 4) (w' := MW cy a V) hx hb hml hown hts hK hP hD hS hA hl.1 ⟨Nat.le_refl _, Nat.le_refl _⟩ (C_X4_isDry l D cy a V y1 (V 1 0) x2 hc2) gX4_flows_X4_isDry rfl (by decide +kernel) rfl ⟨by decide, by decide⟩ Jn.same rfl rfl rfl (Nat.le_of_ble_eq_true rfl) dX4_flows_20 (fun H locs hP hD hS => ?_)
        refine lv_if_eq (tgt := 30) hx hb dX4_flows_23 (by decide) (fun c3 => ?_) (fun c3 => ?_)
        · replace hc := ite_t c3 hc
          refine lv_aload_n hx hb dX4_flows_30 rfl (lv_at hl 0 rfl) ?_
          refine lv_iload_n hx hb dX4_flows_31 rfl (lv_at hl 1 rfl) ?_
          refine lv_iconst (v := 2) hx hb dX4_flows_32 (by decide) ?_
          obtain ⟨x4, hc4, hc⟩ := b1_some hc
          refine gc_VI (n := 2) (q0 := 0) (ci := 4) (w' := MW cy a V) hx hb hml hown hts hK hP hD hS hA hl.1 ⟨Nat.le_refl _, Nat.le_refl _⟩ (C_X4_of l D cy a V y1 2 x4 hc4) gX4_flows_X4_of rfl (by decide +kernel) rfl ⟨by decide, by decide⟩ Jn.same rfl rfl rfl (Nat.le_of_ble_eq_true rfl) dX4_flows_33 (fun H locs hP hD hS => ?_)
          refine lv_istore_n (lv' := [(2, .int x4), (0, .ref (a 0)), (1, .int y1)]) hx hb dX4_flows_36 rfl hl (by decide) rfl (fun ls hl => ?_)
          refine lv_iload_n hx hb dX4_flows_37 rfl (lv_at hl 0 rfl) ?_
          refine lv_aload_n hx hb dX4_flows_38 rfl (lv_at hl 1 rfl) ?_
          refine lv_iload_n hx hb dX4_flows_39 rfl (lv_at hl 2 rfl) ?_
          obtain ⟨x5, hc5, hc⟩ := b1_some hc
          refine gc_VI (n := 1) (q0 := 0) (ci := 4) (w' := MW cy a V) hx hb hml hown hts hK hP hD hS hA hl.1 ⟨Nat.le_refl _, Nat.le_refl _⟩ (C_X4_room l D cy a V y1 x5 hc5) gX4_flows_X4_room rfl (by decide +kernel) rfl ⟨by decide, by decide⟩ Jn.same rfl rfl rfl (Nat.le_of_ble_eq_true rfl) dX4_flows_40 (fun H locs hP hD hS => ?_)
          obtain ⟨x6, hc6, hc⟩ := b1_some hc
          refine gc_SI (n := 2) (w' := MW cy a V) hx hb hml hown hts hK hP hD hS hA hl.1 ⟨Nat.le_refl _, Nat.le_refl _⟩ (C_X4_least l D cy x4 x5 x6 hc6) gX4_flows_X4_least rfl (by decide +kernel) rfl ⟨by decide, by decide⟩ Jn.none rfl (Nat.le_of_ble_eq_true rfl) dX4_flows_43 (fun H locs hP hD hS => ?_)
          refine lv_istore_n (lv' := [(3, .int x6), (2, .int x4), (0, .ref (a 0)), (1, .int y1)]) hx hb dX4_flows_46 rfl hl (by decide) rfl (fun ls hl => ?_)
          refine lv_aload_n hx hb dX4_flows_47 rfl (lv_at hl 2 rfl) ?_
          refine lv_iload_n hx hb dX4_flows_48 rfl (lv_at hl 3 rfl) ?_
          refine lv_iconst (v := 4) hx hb dX4_flows_49 (by decide) ?_
          refine lv_iload_n hx hb dX4_flows_50 rfl (lv_at hl 0 rfl) ?_
          obtain ⟨V7, hc7, hc⟩ := b1_some hc
          refine gc_VV (n := 3) (q0 := 0) (ci := 4) (w' := MW cy a V7) hx hb hml hown hts hK hP hD hS hA hl.1 ⟨Nat.le_refl _, Nat.le_refl _⟩ (C_X4_adds l D cy a V y1 4 x6 V7 hc7) gX4_flows_X4_adds rfl (by decide +kernel) rfl ⟨by decide, by decide⟩ Jn.same rfl rfl rfl (Nat.le_of_ble_eq_true rfl) dX4_flows_51 (fun H locs hP hD hS => ?_)
          refine lv_aload_n hx hb dX4_flows_54 rfl (lv_at hl 2 rfl) ?_
          refine lv_iload_n hx hb dX4_flows_55 rfl (lv_at hl 3 rfl) ?_
          refine lv_bipush (v := 6) hx hb dX4_flows_56 (by decide +kernel) ?_
          refine lv_iload_n hx hb dX4_flows_58 rfl (lv_at hl 0 rfl) ?_
          obtain ⟨V8, hc8, hc⟩ := b1_some hc
          refine gc_VV (n := 3) (q0 := 0) (ci := 4) (w' := MW cy a V8) hx hb hml hown hts hK hP hD hS hA hl.1 ⟨Nat.le_refl _, Nat.le_refl _⟩ (C_X4_adds l D cy a V7 y1 6 x6 V8 hc8) gX4_flows_X4_adds rfl (by decide +kernel) rfl ⟨by decide, by decide⟩ Jn.same rfl rfl rfl (Nat.le_of_ble_eq_true rfl) dX4_flows_59 (fun H locs hP hD hS => ?_)
          refine lv_aload_n hx hb dX4_flows_62 rfl (lv_at hl 2 rfl) ?_
          refine lv_iload_n hx hb dX4_flows_63 rfl (lv_at hl 3 rfl) ?_
          refine lv_bipush (v := 7) hx hb dX4_flows_64 (by decide +kernel) ?_
          refine lv_iload_n hx hb dX4_flows_66 rfl (lv_at hl 1 rfl) ?_
          refine lv_iload_n hx hb dX4_flows_67 rfl (lv_at hl 0 rfl) ?_
          refine lv_isub hx hb dX4_flows_68 ?_
          obtain ⟨V9, hc9, hc⟩ := b1_some hc
          refine gc_VV (n := 3) (q0 := 0) (ci := 4) (w' := MW cy a V9) hx hb hml hown hts hK hP hD hS hA hl.1 ⟨Nat.le_refl _, Nat.le_refl _⟩ (C_X4_adds l D cy a V8 y1 7 (x4 - x6) V9 hc9) gX4_flows_X4_adds rfl (by decide +kernel) rfl ⟨by decide, by decide⟩ Jn.same rfl rfl rfl (Nat.le_of_ble_eq_true rfl) dX4_flows_69 (fun H locs hP hD hS => ?_)
          refine lv_iinc (v := y1 + 1) (lv' := [(1, .int (y1 + 1)), (3, .int x6), (2, .int x4), (0, .ref (a 0))]) hx hb dX4_flows_72 hl (k := 3) rfl rfl (by decide) rfl (fun ls hl => ?_)
          refine lv_goto (tgt := 2) hx hb dX4_flows_75 (by decide) ?_
          exact ih (y1 + 1) V9 H locs ls hc hP hD hS (lv_sub hl [3, 0] rfl)
        · replace hc := ite_f c3 hc
          refine lv_iconst (v := 0) hx hb dX4_flows_26 (by decide) ?_
          refine lv_goto (tgt := 36) hx hb dX4_flows_27 (by decide) ?_
          refine lv_istore_n (lv' := [(2, .int 0), (0, .ref (a 0)), (1, .int y1)]) hx hb dX4_flows_36 rfl hl (by decide) rfl (fun ls hl => ?_)
          refine lv_iload_n hx hb dX4_flows_37 rfl (lv_at hl 0 rfl) ?_
          refine lv_aload_n hx hb dX4_flows_38 rfl (lv_at hl 1 rfl) ?_
          refine lv_iload_n hx hb dX4_flows_39 rfl (lv_at hl 2 rfl) ?_
          obtain ⟨x10, hc10, hc⟩ := b1_some hc
          refine gc_VI (n := 1) (q0 := 0) (ci := 4) (w' := MW cy a V) hx hb hml hown hts hK hP hD hS hA hl.1 ⟨Nat.le_refl _, Nat.le_refl _⟩ (C_X4_room l D cy a V y1 x10 hc10) gX4_flows_X4_room rfl (by decide +kernel) rfl ⟨by decide, by decide⟩ Jn.same rfl rfl rfl (Nat.le_of_ble_eq_true rfl) dX4_flows_40 (fun H locs hP hD hS => ?_)
          obtain ⟨x11, hc11, hc⟩ := b1_some hc
          refine gc_SI (n := 2) (w' := MW cy a V) hx hb hml hown hts hK hP hD hS hA hl.1 ⟨Nat.le_refl _, Nat.le_refl _⟩ (C_X4_least l D cy 0 x10 x11 hc11) gX4_flows_X4_least rfl (by decide +kernel) rfl ⟨by decide, by decide⟩ Jn.none rfl (Nat.le_of_ble_eq_true rfl) dX4_flows_43 (fun H locs hP hD hS => ?_)
          refine lv_istore_n (lv' := [(3, .int x11), (2, .int 0), (0, .ref (a 0)), (1, .int y1)]) hx hb dX4_flows_46 rfl hl (by decide) rfl (fun ls hl => ?_)
          refine lv_aload_n hx hb dX4_flows_47 rfl (lv_at hl 2 rfl) ?_
          refine lv_iload_n hx hb dX4_flows_48 rfl (lv_at hl 3 rfl) ?_
          refine lv_iconst (v := 4) hx hb dX4_flows_49 (by decide) ?_
          refine lv_iload_n hx hb dX4_flows_50 rfl (lv_at hl 0 rfl) ?_
          obtain ⟨V12, hc12, hc⟩ := b1_some hc
          refine gc_VV (n := 3) (q0 := 0) (ci := 4) (w' := MW cy a V12) hx hb hml hown hts hK hP hD hS hA hl.1 ⟨Nat.le_refl _, Nat.le_refl _⟩ (C_X4_adds l D cy a V y1 4 x11 V12 hc12) gX4_flows_X4_adds rfl (by decide +kernel) rfl ⟨by decide, by decide⟩ Jn.same rfl rfl rfl (Nat.le_of_ble_eq_true rfl) dX4_flows_51 (fun H locs hP hD hS => ?_)
          refine lv_aload_n hx hb dX4_flows_54 rfl (lv_at hl 2 rfl) ?_
          refine lv_iload_n hx hb dX4_flows_55 rfl (lv_at hl 3 rfl) ?_
          refine lv_bipush (v := 6) hx hb dX4_flows_56 (by decide +kernel) ?_
          refine lv_iload_n hx hb dX4_flows_58 rfl (lv_at hl 0 rfl) ?_
          obtain ⟨V13, hc13, hc⟩ := b1_some hc
          refine gc_VV (n := 3) (q0 := 0) (ci := 4) (w' := MW cy a V13) hx hb hml hown hts hK hP hD hS hA hl.1 ⟨Nat.le_refl _, Nat.le_refl _⟩ (C_X4_adds l D cy a V12 y1 6 x11 V13 hc13) gX4_flows_X4_adds rfl (by decide +kernel) rfl ⟨by decide, by decide⟩ Jn.same rfl rfl rfl (Nat.le_of_ble_eq_true rfl) dX4_flows_59 (fun H locs hP hD hS => ?_)
          refine lv_aload_n hx hb dX4_flows_62 rfl (lv_at hl 2 rfl) ?_
          refine lv_iload_n hx hb dX4_flows_63 rfl (lv_at hl 3 rfl) ?_
          refine lv_bipush (v := 7) hx hb dX4_flows_64 (by decide +kernel) ?_
          refine lv_iload_n hx hb dX4_flows_66 rfl (lv_at hl 1 rfl) ?_
          refine lv_iload_n hx hb dX4_flows_67 rfl (lv_at hl 0 rfl) ?_
          refine lv_isub hx hb dX4_flows_68 ?_
          obtain ⟨V14, hc14, hc⟩ := b1_some hc
          refine gc_VV (n := 3) (q0 := 0) (ci := 4) (w' := MW cy a V14) hx hb hml hown hts hK hP hD hS hA hl.1 ⟨Nat.le_refl _, Nat.le_refl _⟩ (C_X4_adds l D cy a V13 y1 7 (0 - x11) V14 hc14) gX4_flows_X4_adds rfl (by decide +kernel) rfl ⟨by decide, by decide⟩ Jn.same rfl rfl rfl (Nat.le_of_ble_eq_true rfl) dX4_flows_69 (fun H locs hP hD hS => ?_)
          refine lv_iinc (v := y1 + 1) (lv' := [(1, .int (y1 + 1)), (3, .int x11), (2, .int 0), (0, .ref (a 0))]) hx hb dX4_flows_72 hl (k := 3) rfl rfl (by decide) rfl (fun ls hl => ?_)
          refine lv_goto (tgt := 2) hx hb dX4_flows_75 (by decide) ?_
          exact ih (y1 + 1) V14 H locs ls hc hP hD hS (lv_sub hl [3, 0] rfl)
  obtain ⟨H, hHe⟩ : ∃ H : Heap, H = s.heap := ⟨_, rfl⟩
  obtain ⟨locs, hLe⟩ : ∃ x : List Loc, x = [] := ⟨_, rfl⟩
  have hP : va_P D vwCl (MW cy a V) H := by rw [hHe]; exact hP
  have hS : va_S A s.heap H locs := by rw [hHe, hLe]; exact hS
  have goal0 : W p l e (RM 2 47) s m args below meth c H locs 0 0 Q (F0 m 0 ls []) := by
    refine lv_iconst (v := 0) hx hb dX4_flows_0 (by decide) ?_
    refine lv_istore_n (lv' := [(1, .int 0), (0, .ref (a 0))]) hx hb dX4_flows_1 rfl hl (by decide) rfl (fun ls hl => ?_)
    exact L2 FUEL 0 V H locs ls hc hP hD hS (lv_sub hl [1, 0] rfl)
  rw [hHe, hLe] at goal0
  exact goal0
set_option maxHeartbeats 4000000 in
set_option maxRecDepth 100000 in
theorem C_X4_lends (l : Launch) (D : va_G) (cy : Nat → ClassId) (a : Nat → Nat) (V : FV) (r : Int32) (V' : FV) (hc : f_X4_lends V = some (r, V')) : ConI l yX4_lends wsX4_lends 2 43 D cy (MW cy a) [.ref (a 0)] V V' r := by
  refine bodyI (cc := cX4_lends) (maxL := 5) (ty := .int) (by decide +kernel) rfl (Nat.le_of_ble_eq_true rfl) ?_
  intro p e s m args below meth c A Q hx hb hml hts hown hK hP hD hA hS hend ls hl
  have hown : s.vm.findClass RX4 = some m.cls := hown
  have hP : va_P D vwCl (MW cy a V) s.heap := hP
  have hD : va_D A (MW cy a V) := hD
  have hl : lv_has ls 5 [(0, .ref (a 0))] := hl
  have hend : ∀ (H : Heap) (locs : List Loc) (pc : Nat) (ls : Array Slot) (v : Int32) (V : FV), v = r → V = V' → narrow .int (.int v) = .int v → va_P D vwCl (MW cy a V) H → va_D A (MW cy a V) → va_S A s.heap H locs → decode cX4_lends pc = .ok (.ireturn, 1) → W p l e (RM 2 43) s m args below meth c H locs 0 0 Q (F0 m pc ls [.int v]) := fun H locs pc ls v V h1 h2 h3 h4 h5 h6 h7 => hend H locs pc ls v V h1 h2 h3 h4 h5 h6 h7
  have fl_7 := hts (.fieldLink RX4 7 "NoonWellsModel" "now" "[I") (by decide +kernel)
  have inw_X4 := (by decide +kernel : ∀ w ∈ u_ws RX4 TX4 12, w ∈ wsX4_lends)
  have L11 : ∀ (n : Nat), ∀ (y1 y2 : Int32) (V : FV) (H : Heap) (locs : List Loc) (ls : Array Slot), f_X4_lends_L11 n y1 y2 V = some (r, V') → va_P D vwCl (MW cy a V) H → va_D A (MW cy a V) → va_S A s.heap H locs → lv_has ls 5 [(0, .ref (a 0)), (1, .int y1), (2, .int y2)] → W p l e (RM 2 43) s m args below meth c H locs 0 0 Q (F0 m 11 ls []) := by
    intro n
    induction n with
    | zero =>
      intro y1 y2 V H locs ls hc
      cases hc
    | succ n ih =>
      intro y1 y2 V H locs ls hc hP hD hS hl
      refine lv_iload_n hx hb dX4_lends_11 rfl (lv_at hl 2 rfl) ?_
      refine lv_if_le (tgt := 95) hx hb dX4_lends_12 (by decide) (fun c1 => ?_) (fun c1 => ?_)
      · replace hc := ite_t c1 hc
        refine lv_iload_n hx hb dX4_lends_95 rfl (lv_at hl 1 rfl) ?_
        exact hend H locs _ _ _ _ (some_fst hc) (some_snd hc) rfl hP hD hS dX4_lends_96
      · replace hc := ite_f c1 hc
        refine lv_aload_n hx hb dX4_lends_15 rfl (lv_at hl 0 rfl) ?_
        refine lv_iload_n hx hb dX4_lends_16 rfl (lv_at hl 2 rfl) ?_
        refine lv_iconst (v := 0) hx hb dX4_lends_17 (by decide) ?_
        obtain ⟨x2, hc2, hc⟩ := b1_some hc
        refine gc_VI (n := 2) (q0 := 0) (ci := 4) (w' := MW cy a V) hx hb hml hown hts hK hP hD hS hA hl.1 ⟨Nat.le_refl _, Nat.le_refl _⟩ (C_X4_of l D cy a V y2 0 x2 hc2) gX4_lends_X4_of rfl (by decide +kernel) rfl ⟨by decide, by decide⟩ Jn.same rfl rfl rfl (Nat.le_of_ble_eq_true rfl) dX4_lends_18 (fun H locs hP hD hS => ?_)
        refine lv_istore_n (lv' := [(3, .int x2), (0, .ref (a 0)), (1, .int y1), (2, .int y2)]) hx hb dX4_lends_21 rfl hl (by decide) rfl (fun ls hl => ?_)
        refine lv_aload_n hx hb dX4_lends_22 rfl (lv_at hl 1 rfl) ?_
        refine lv_iload_n hx hb dX4_lends_23 rfl (lv_at hl 3 rfl) ?_
        refine lv_iconst (v := 4) hx hb dX4_lends_24 (by decide) ?_
        obtain ⟨x3, hc3, hc⟩ := b1_some hc
        refine gc_VI (n := 2) (q0 := 0) (ci := 4) (w' := MW cy a V) hx hb hml hown hts hK hP hD hS hA hl.1 ⟨Nat.le_refl _, Nat.le_refl _⟩ (C_X4_of l D cy a V y2 4 x3 hc3) gX4_lends_X4_of rfl (by decide +kernel) rfl ⟨by decide, by decide⟩ Jn.same rfl rfl rfl (Nat.le_of_ble_eq_true rfl) dX4_lends_25 (fun H locs hP hD hS => ?_)
        refine lv_aload_n hx hb dX4_lends_28 rfl (lv_at hl 1 rfl) ?_
        refine lv_iload_n hx hb dX4_lends_29 rfl (lv_at hl 3 rfl) ?_
        obtain ⟨x4, hc4, hc⟩ := b1_some hc
        refine gc_VI (n := 1) (q0 := 0) (ci := 4) (w' := MW cy a V) hx hb hml hown hts hK hP hD hS hA hl.1 ⟨Nat.le_refl _, Nat.le_refl _⟩ (C_X4_half l D cy a V y2 x4 hc4) gX4_lends_X4_half rfl (by decide +kernel) rfl ⟨by decide, by decide⟩ Jn.same rfl rfl rfl (Nat.le_of_ble_eq_true rfl) dX4_lends_30 (fun H locs hP hD hS => ?_)
        refine lv_isub hx hb dX4_lends_33 ?_
        refine lv_aload_n hx hb dX4_lends_34 rfl (lv_at hl 1 rfl) ?_
        refine lv_iload_n hx hb dX4_lends_35 rfl (lv_at hl 0 rfl) ?_
        obtain ⟨x5, hc5, hc⟩ := b1_some hc
        refine gc_VI (n := 1) (q0 := 0) (ci := 4) (w' := MW cy a V) hx hb hml hown hts hK hP hD hS hA hl.1 ⟨Nat.le_refl _, Nat.le_refl _⟩ (C_X4_room l D cy a V x2 x5 hc5) gX4_lends_X4_room rfl (by decide +kernel) rfl ⟨by decide, by decide⟩ Jn.same rfl rfl rfl (Nat.le_of_ble_eq_true rfl) dX4_lends_36 (fun H locs hP hD hS => ?_)
        obtain ⟨x6, hc6, hc⟩ := b1_some hc
        refine gc_SI (n := 2) (w' := MW cy a V) hx hb hml hown hts hK hP hD hS hA hl.1 ⟨Nat.le_refl _, Nat.le_refl _⟩ (C_X4_least l D cy (x3 - x4) x5 x6 hc6) gX4_lends_X4_least rfl (by decide +kernel) rfl ⟨by decide, by decide⟩ Jn.none rfl (Nat.le_of_ble_eq_true rfl) dX4_lends_39 (fun H locs hP hD hS => ?_)
        refine lv_istore (lv' := [(4, .int x6), (3, .int x2), (0, .ref (a 0)), (1, .int y1), (2, .int y2)]) hx hb dX4_lends_42 hl (by decide) rfl (fun ls hl => ?_)
        refine lv_iload hx hb dX4_lends_44 (lv_at hl 0 rfl) ?_
        refine lv_if_le (tgt := 89) hx hb dX4_lends_46 (by decide) (fun c7 => ?_) (fun c7 => ?_)
        · replace hc := ite_t c7 hc
          refine lv_iinc (v := y2 + (-1)) (lv' := [(2, .int (y2 + (-1))), (4, .int x6), (3, .int x2), (0, .ref (a 0)), (1, .int y1)]) hx hb dX4_lends_89 hl (k := 4) rfl rfl (by decide) rfl (fun ls hl => ?_)
          refine lv_goto (tgt := 11) hx hb dX4_lends_92 (by decide) ?_
          exact ih y1 (y2 + (-1)) V H locs ls hc hP hD hS (lv_sub hl [3, 4, 0] rfl)
        · replace hc := ite_f c7 hc
          refine lv_aload_n hx hb dX4_lends_49 rfl (lv_at hl 2 rfl) ?_
          refine lv_iload_n hx hb dX4_lends_50 rfl (lv_at hl 4 rfl) ?_
          refine lv_iconst (v := 4) hx hb dX4_lends_51 (by decide) ?_
          refine lv_iload hx hb dX4_lends_52 (lv_at hl 0 rfl) ?_
          refine lv_ineg hx hb dX4_lends_54 ?_
          obtain ⟨V8, hc8, hc⟩ := b1_some hc
          refine gc_VV (n := 3) (q0 := 0) (ci := 4) (w' := MW cy a V8) hx hb hml hown hts hK hP hD hS hA hl.1 ⟨Nat.le_refl _, Nat.le_refl _⟩ (C_X4_adds l D cy a V y2 4 (-x6) V8 hc8) gX4_lends_X4_adds rfl (by decide +kernel) rfl ⟨by decide, by decide⟩ Jn.same rfl rfl rfl (Nat.le_of_ble_eq_true rfl) dX4_lends_55 (fun H locs hP hD hS => ?_)
          refine lv_aload_n hx hb dX4_lends_58 rfl (lv_at hl 2 rfl) ?_
          refine lv_iload_n hx hb dX4_lends_59 rfl (lv_at hl 4 rfl) ?_
          refine lv_iconst (v := 5) hx hb dX4_lends_60 (by decide) ?_
          refine lv_iload hx hb dX4_lends_61 (lv_at hl 0 rfl) ?_
          obtain ⟨V9, hc9, hc⟩ := b1_some hc
          refine gc_VV (n := 3) (q0 := 0) (ci := 4) (w' := MW cy a V9) hx hb hml hown hts hK hP hD hS hA hl.1 ⟨Nat.le_refl _, Nat.le_refl _⟩ (C_X4_adds l D cy a V8 y2 5 x6 V9 hc9) gX4_lends_X4_adds rfl (by decide +kernel) rfl ⟨by decide, by decide⟩ Jn.same rfl rfl rfl (Nat.le_of_ble_eq_true rfl) dX4_lends_63 (fun H locs hP hD hS => ?_)
          refine lv_aload_n hx hb dX4_lends_66 rfl (lv_at hl 2 rfl) ?_
          refine lv_iload_n hx hb dX4_lends_67 rfl (lv_at hl 1 rfl) ?_
          refine lv_iconst (v := 4) hx hb dX4_lends_68 (by decide) ?_
          refine lv_iload hx hb dX4_lends_69 (lv_at hl 0 rfl) ?_
          obtain ⟨V10, hc10, hc⟩ := b1_some hc
          refine gc_VV (n := 3) (q0 := 0) (ci := 4) (w' := MW cy a V10) hx hb hml hown hts hK hP hD hS hA hl.1 ⟨Nat.le_refl _, Nat.le_refl _⟩ (C_X4_adds l D cy a V9 x2 4 x6 V10 hc10) gX4_lends_X4_adds rfl (by decide +kernel) rfl ⟨by decide, by decide⟩ Jn.same rfl rfl rfl (Nat.le_of_ble_eq_true rfl) dX4_lends_71 (fun H locs hP hD hS => ?_)
          refine lv_aload_n hx hb dX4_lends_74 rfl (lv_at hl 2 rfl) ?_
          refine lv_iload_n hx hb dX4_lends_75 rfl (lv_at hl 1 rfl) ?_
          refine lv_bipush (v := 10) hx hb dX4_lends_76 (by decide +kernel) ?_
          refine lv_iload hx hb dX4_lends_78 (lv_at hl 0 rfl) ?_
          obtain ⟨V11, hc11, hc⟩ := b1_some hc
          refine gc_VV (n := 3) (q0 := 0) (ci := 4) (w' := MW cy a V11) hx hb hml hown hts hK hP hD hS hA hl.1 ⟨Nat.le_refl _, Nat.le_refl _⟩ (C_X4_adds l D cy a V10 x2 10 x6 V11 hc11) gX4_lends_X4_adds rfl (by decide +kernel) rfl ⟨by decide, by decide⟩ Jn.same rfl rfl rfl (Nat.le_of_ble_eq_true rfl) dX4_lends_80 (fun H locs hP hD hS => ?_)
          refine lv_iload_n hx hb dX4_lends_83 rfl (lv_at hl 3 rfl) ?_
          refine lv_iconst (v := 1) hx hb dX4_lends_84 (by decide) ?_
          refine lv_iload_n hx hb dX4_lends_85 rfl (lv_at hl 4 rfl) ?_
          refine lv_ishl hx hb dX4_lends_86 ?_
          refine lv_ior hx hb dX4_lends_87 ?_
          refine lv_istore_n (lv' := [(1, .int (y1 ||| (1 <<< (y2 &&& 31)))), (4, .int x6), (3, .int x2), (0, .ref (a 0)), (2, .int y2)]) hx hb dX4_lends_88 rfl hl (by decide) rfl (fun ls hl => ?_)
          refine lv_iinc (v := y2 + (-1)) (lv' := [(2, .int (y2 + (-1))), (1, .int (y1 ||| (1 <<< (y2 &&& 31)))), (4, .int x6), (3, .int x2), (0, .ref (a 0))]) hx hb dX4_lends_89 hl (k := 4) rfl rfl (by decide) rfl (fun ls hl => ?_)
          refine lv_goto (tgt := 11) hx hb dX4_lends_92 (by decide) ?_
          exact ih (y1 ||| (1 <<< (y2 &&& 31))) (y2 + (-1)) V11 H locs ls hc hP hD hS (lv_sub hl [4, 1, 0] rfl)
  obtain ⟨H, hHe⟩ : ∃ H : Heap, H = s.heap := ⟨_, rfl⟩
  obtain ⟨locs, hLe⟩ : ∃ x : List Loc, x = [] := ⟨_, rfl⟩
  have hP : va_P D vwCl (MW cy a V) H := by rw [hHe]; exact hP
  have hS : va_S A s.heap H locs := by rw [hHe, hLe]; exact hS
  have goal0 : W p l e (RM 2 43) s m args below meth c H locs 0 0 Q (F0 m 0 ls []) := by
    refine lv_iconst (v := 0) hx hb dX4_lends_0 (by decide) ?_
    refine lv_istore_n (lv' := [(1, .int 0), (0, .ref (a 0))]) hx hb dX4_lends_1 rfl hl (by decide) rfl (fun ls hl => ?_)
    refine lv_aload_n hx hb dX4_lends_2 rfl (lv_at hl 1 rfl) ?_
    refine va_get (ci := 4) (v := .ref (a 1)) (C := RX4) (T := TX4) (N := 12) hx hb hts inw_X4 hown hK.1 hP 0 rfl rfl 0 (by decide) fl_7 (fun _ h9 => h9) rfl dX4_lends_3 ?_
    refine lv_iconst (v := 3) hx hb dX4_lends_6 (by decide) ?_
    refine g_iald (x := V 1 3) hx hb hK hP 1 rfl (vp_lit (by decide)) rfl dX4_lends_7 ?_
    refine lv_iconst (v := 1) hx hb dX4_lends_8 (by decide) ?_
    refine lv_isub hx hb dX4_lends_9 ?_
    refine lv_istore_n (lv' := [(2, .int ((V 1 3) - 1)), (1, .int 0), (0, .ref (a 0))]) hx hb dX4_lends_10 rfl hl (by decide) rfl (fun ls hl => ?_)
    exact L11 FUEL 0 ((V 1 3) - 1) V H locs ls hc hP hD hS (lv_sub hl [2, 1, 0] rfl)
  rw [hHe, hLe] at goal0
  exact goal0
