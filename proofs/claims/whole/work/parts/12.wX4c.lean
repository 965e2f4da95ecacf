set_option maxHeartbeats 4000000 in
set_option maxRecDepth 100000 in
theorem C_X4_addsWell (l : Launch) (D : va_G) (cy : Nat → ClassId) (a : Nat → Nat) (V : FV) (p1 : Int32) (p2 : Int32) (p3 : Int32) (p4 : Int32) (r : Int32) (V' : FV) (hc : f_X4_addsWell V p1 p2 p3 p4 = some (r, V')) : ConI l yX4_addsWell wsX4_addsWell 2 43 D cy (MW cy a) [.ref (a 0), .int p1, .int p2, .int p3, .int p4] V V' r := by
  refine bodyI (cc := cX4_addsWell) (maxL := 7) (ty := .int) (by decide +kernel) rfl (Nat.le_of_ble_eq_true rfl) ?_
  intro p e s m args below meth c A Q hx hb hml hts hown hK hP hD hA hS hend ls hl
  have hown : s.vm.findClass RX4 = some m.cls := hown
  have hP : va_P D vwCl (MW cy a V) s.heap := hP
  have hD : va_D A (MW cy a V) := hD
  have hl : lv_has ls 7 [(0, .ref (a 0)), (1, .int p1), (2, .int p2), (3, .int p3), (4, .int p4)] := hl
  have hend : ∀ (H : Heap) (locs : List Loc) (pc : Nat) (ls : Array Slot) (v : Int32) (V : FV), v = r → V = V' → narrow .int (.int v) = .int v → va_P D vwCl (MW cy a V) H → va_D A (MW cy a V) → va_S A s.heap H locs → decode cX4_addsWell pc = .ok (.ireturn, 1) → W p l e (RM 2 43) s m args below meth c H locs 0 0 Q (F0 m pc ls [.int v]) := fun H locs pc ls v V h1 h2 h3 h4 h5 h6 h7 => hend H locs pc ls v V h1 h2 h3 h4 h5 h6 h7
  have fl_7 := hts (.fieldLink RX4 7 "NoonWellsModel" "now" "[I") (by decide +kernel)
  have inw_X4 := (by decide +kernel : ∀ w ∈ u_ws RX4 TX4 12, w ∈ wsX4_addsWell)
  have L77 : ∀ (n : Nat), ∀ (y1 y2 y3 y4 y5 y6 : Int32) (V : FV) (H : Heap) (locs : List Loc) (ls : Array Slot), f_X4_addsWell_L77 n y1 y2 y3 y4 y5 y6 V = some (r, V') → va_P D vwCl (MW cy a V) H → va_D A (MW cy a V) → va_S A s.heap H locs → lv_has ls 7 [(0, .ref (a 0)), (1, .int y1), (2, .int y2), (3, .int y3), (4, .int y4), (5, .int y5), (6, .int y6)] → W p l e (RM 2 43) s m args below meth c H locs 0 0 Q (F0 m 77 ls []) := by
    intro n
    induction n with
    | zero =>
      intro y1 y2 y3 y4 y5 y6 V H locs ls hc
      cases hc
    | succ n ih =>
      intro y1 y2 y3 y4 y5 y6 V H locs ls hc hP hD hS hl
      refine lv_iload hx hb dX4_addsWell_77 (lv_at hl 6 rfl) ?_
      refine lv_bipush (v := 12) hx hb dX4_addsWell_79 (by decide +kernel) ?_
      refine lv_icmp_ge (tgt := 107) hx hb dX4_addsWell_81 (by decide) (fun c11 => ?_) (fun c11 => ?_)
      · replace hc := ite_t c11 hc
        refine lv_aload_n hx hb dX4_addsWell_107 rfl (lv_at hl 0 rfl) ?_
        refine lv_iload hx hb dX4_addsWell_108 (lv_at hl 5 rfl) ?_
        refine lv_iconst (v := 0) hx hb dX4_addsWell_110 (by decide) ?_
        refine lv_iload_n hx hb dX4_addsWell_111 rfl (lv_at hl 1 rfl) ?_
        obtain ⟨V12, hc12, hc⟩ := b1_some hc
        refine gc_VV (n := 3) (q0 := 0) (ci := 4) (w' := MW cy a V12) hx hb hml hown hts hK hP hD hS hA hl.1 ⟨Nat.le_refl _, Nat.le_refl _⟩ (C_X4_adds l D cy a V y5 0 y1 V12 hc12) gX4_addsWell_X4_adds rfl (by decide +kernel) rfl ⟨by decide, by decide⟩ Jn.same rfl rfl rfl (Nat.le_of_ble_eq_true rfl) dX4_addsWell_112 (fun H locs hP hD hS => ?_)
        refine lv_aload_n hx hb dX4_addsWell_115 rfl (lv_at hl 0 rfl) ?_
        refine lv_iload hx hb dX4_addsWell_116 (lv_at hl 5 rfl) ?_
        refine lv_iconst (v := 1) hx hb dX4_addsWell_118 (by decide) ?_
        refine lv_iload_n hx hb dX4_addsWell_119 rfl (lv_at hl 2 rfl) ?_
        obtain ⟨V13, hc13, hc⟩ := b1_some hc
        refine gc_VV (n := 3) (q0 := 0) (ci := 4) (w' := MW cy a V13) hx hb hml hown hts hK hP hD hS hA hl.1 ⟨Nat.le_refl _, Nat.le_refl _⟩ (C_X4_adds l D cy a V12 y5 1 y2 V13 hc13) gX4_addsWell_X4_adds rfl (by decide +kernel) rfl ⟨by decide, by decide⟩ Jn.same rfl rfl rfl (Nat.le_of_ble_eq_true rfl) dX4_addsWell_120 (fun H locs hP hD hS => ?_)
        refine lv_aload_n hx hb dX4_addsWell_123 rfl (lv_at hl 0 rfl) ?_
        refine lv_iload hx hb dX4_addsWell_124 (lv_at hl 5 rfl) ?_
        refine lv_iconst (v := 2) hx hb dX4_addsWell_126 (by decide) ?_
        refine lv_iload_n hx hb dX4_addsWell_127 rfl (lv_at hl 3 rfl) ?_
        obtain ⟨V14, hc14, hc⟩ := b1_some hc
        refine gc_VV (n := 3) (q0 := 0) (ci := 4) (w' := MW cy a V14) hx hb hml hown hts hK hP hD hS hA hl.1 ⟨Nat.le_refl _, Nat.le_refl _⟩ (C_X4_adds l D cy a V13 y5 2 y3 V14 hc14) gX4_addsWell_X4_adds rfl (by decide +kernel) rfl ⟨by decide, by decide⟩ Jn.same rfl rfl rfl (Nat.le_of_ble_eq_true rfl) dX4_addsWell_128 (fun H locs hP hD hS => ?_)
        refine lv_aload_n hx hb dX4_addsWell_131 rfl (lv_at hl 0 rfl) ?_
        refine lv_iload hx hb dX4_addsWell_132 (lv_at hl 5 rfl) ?_
        refine lv_iconst (v := 3) hx hb dX4_addsWell_134 (by decide) ?_
        refine lv_iload hx hb dX4_addsWell_135 (lv_at hl 4 rfl) ?_
        obtain ⟨V15, hc15, hc⟩ := b1_some hc
        refine gc_VV (n := 3) (q0 := 0) (ci := 4) (w' := MW cy a V15) hx hb hml hown hts hK hP hD hS hA hl.1 ⟨Nat.le_refl _, Nat.le_refl _⟩ (C_X4_adds l D cy a V14 y5 3 y4 V15 hc15) gX4_addsWell_X4_adds rfl (by decide +kernel) rfl ⟨by decide, by decide⟩ Jn.same rfl rfl rfl (Nat.le_of_ble_eq_true rfl) dX4_addsWell_137 (fun H locs hP hD hS => ?_)
        refine lv_aload_n hx hb dX4_addsWell_140 rfl (lv_at hl 0 rfl) ?_
        refine va_get (ci := 4) (v := .ref (a 1)) (C := RX4) (T := TX4) (N := 12) hx hb hts inw_X4 hown hK.1 hP 0 rfl rfl 0 (by decide) fl_7 (fun _ h9 => h9) rfl dX4_addsWell_141 ?_
        refine lv_iconst (v := 3) hx hb dX4_addsWell_144 (by decide) ?_
        refine lv_dup2_11 hx hb dX4_addsWell_145 rfl rfl ?_
        refine g_iald (x := V15 1 3) hx hb hK hP 1 rfl (vp_lit (by decide)) rfl dX4_addsWell_146 ?_
        refine lv_iconst (v := 1) hx hb dX4_addsWell_147 (by decide) ?_
        refine lv_iadd hx hb dX4_addsWell_148 ?_
        obtain ⟨V16, eV16, hc⟩ := lt1_some hc
        refine g_iast (w' := MW cy a V16) hx hb hK hP hD hS 1 rfl (vp_lit (by decide)) (by rw [← eV16]; rfl) dX4_addsWell_149 (fun H locs hP hD hS => ?_)
        refine lv_iload hx hb dX4_addsWell_150 (lv_at hl 5 rfl) ?_
        exact hend H locs _ _ _ _ (some_fst hc) (some_snd hc) rfl hP hD hS dX4_addsWell_152
      · replace hc := ite_f c11 hc
        refine lv_aload_n hx hb dX4_addsWell_84 rfl (lv_at hl 0 rfl) ?_
        refine va_get (ci := 4) (v := .ref (a 1)) (C := RX4) (T := TX4) (N := 12) hx hb hts inw_X4 hown hK.1 hP 0 rfl rfl 0 (by decide) fl_7 (fun _ h9 => h9) rfl dX4_addsWell_85 ?_
        refine lv_bipush (v := 8) hx hb dX4_addsWell_88 (by decide +kernel) ?_
        refine lv_bipush (v := 12) hx hb dX4_addsWell_90 (by decide +kernel) ?_
        refine lv_iload hx hb dX4_addsWell_92 (lv_at hl 5 rfl) ?_
        refine lv_imul hx hb dX4_addsWell_94 ?_
        refine lv_iadd hx hb dX4_addsWell_95 ?_
        refine lv_iload hx hb dX4_addsWell_96 (lv_at hl 6 rfl) ?_
        refine lv_iadd hx hb dX4_addsWell_98 ?_
        refine lv_iconst (v := 0) hx hb dX4_addsWell_99 (by decide) ?_
        obtain ⟨V17, hi17, eV17, hc⟩ := wr_some hc
        refine g_iast (w' := MW cy a V17) hx hb hK hP hD hS 1 rfl hi17 (by rw [← eV17]; rfl) dX4_addsWell_100 (fun H locs hP hD hS => ?_)
        refine lv_iinc (v := y6 + 1) (lv' := [(6, .int (y6 + 1)), (0, .ref (a 0)), (1, .int y1), (2, .int y2), (3, .int y3), (4, .int y4), (5, .int y5)]) hx hb dX4_addsWell_101 hl (k := 6) rfl rfl (by decide) rfl (fun ls hl => ?_)
        refine lv_goto (tgt := 77) hx hb dX4_addsWell_104 (by decide) ?_
        exact ih y1 y2 y3 y4 y5 (y6 + 1) V17 H locs ls hc hP hD hS (lv_sub hl [1, 2, 3, 4, 5, 6, 0] rfl)
  obtain ⟨H, hHe⟩ : ∃ H : Heap, H = s.heap := ⟨_, rfl⟩
  obtain ⟨locs, hLe⟩ : ∃ x : List Loc, x = [] := ⟨_, rfl⟩
  have hP : va_P D vwCl (MW cy a V) H := by rw [hHe]; exact hP
  have hS : va_S A s.heap H locs := by rw [hHe, hLe]; exact hS
  have goal0 : W p l e (RM 2 43) s m args below meth c H locs 0 0 Q (F0 m 0 ls []) := by
    refine lv_aload_n hx hb dX4_addsWell_0 rfl (lv_at hl 0 rfl) ?_
    refine va_get (ci := 4) (v := .ref (a 1)) (C := RX4) (T := TX4) (N := 12) hx hb hts inw_X4 hown hK.1 hP 0 rfl rfl 0 (by decide) fl_7 (fun _ h9 => h9) rfl dX4_addsWell_1 ?_
    refine lv_iconst (v := 3) hx hb dX4_addsWell_4 (by decide) ?_
    refine g_iald (x := V 1 3) hx hb hK hP 1 rfl (vp_lit (by decide)) rfl dX4_addsWell_5 ?_
    refine lv_istore (lv' := [(5, .int (V 1 3)), (0, .ref (a 0)), (1, .int p1), (2, .int p2), (3, .int p3), (4, .int p4)]) hx hb dX4_addsWell_6 hl (by decide) rfl (fun ls hl => ?_)
    refine lv_iload hx hb dX4_addsWell_8 (lv_at hl 0 rfl) ?_
    refine lv_if_ne (tgt := 21) hx hb dX4_addsWell_10 (by decide) (fun c1 => ?_) (fun c1 => ?_)
    · replace hc := ite_f c1 hc
      refine lv_aload_n hx hb dX4_addsWell_21 rfl (lv_at hl 1 rfl) ?_
      refine lv_iload_n hx hb dX4_addsWell_22 rfl (lv_at hl 2 rfl) ?_
      obtain ⟨x2, hc2, hc⟩ := b1_some hc
      refine gc_VI (n := 1) (q0 := 0) (ci := 4) (w' := MW cy a V) hx hb hml hown hts hK hP hD hS hA hl.1 ⟨Nat.le_refl _, Nat.le_refl _⟩ (C_X4_isWell l D cy a V p1 x2 hc2) gX4_addsWell_X4_isWell rfl (by decide +kernel) rfl ⟨by decide, by decide⟩ Jn.same rfl rfl rfl (Nat.le_of_ble_eq_true rfl) dX4_addsWell_23 (fun H locs hP hD hS => ?_)
      refine lv_if_eq (tgt := 62) hx hb dX4_addsWell_26 (by decide) (fun c3 => ?_) (fun c3 => ?_)
      · replace hc := ite_t c3 hc
        refine lv_iconst (v := (-1)) hx hb dX4_addsWell_62 (by decide) ?_
        exact hend H locs _ _ _ _ (some_fst hc) (some_snd hc) rfl hP hD hS dX4_addsWell_63
      · replace hc := ite_f c3 hc
        refine lv_iload_n hx hb dX4_addsWell_29 rfl (lv_at hl 3 rfl) ?_
        refine lv_iconst (v := 1) hx hb dX4_addsWell_30 (by decide) ?_
        refine lv_sipush (v := 1000) hx hb dX4_addsWell_31 (by decide +kernel) ?_
        obtain ⟨x4, hc4, hc⟩ := b1_some hc
        refine gc_SI (n := 3) (w' := MW cy a V) hx hb hml hown hts hK hP hD hS hA hl.1 ⟨Nat.le_refl _, Nat.le_refl _⟩ (C_X4_in l D cy p2 1 1000 x4 hc4) gX4_addsWell_X4_in rfl (by decide +kernel) rfl ⟨by decide, by decide⟩ Jn.none rfl (Nat.le_of_ble_eq_true rfl) dX4_addsWell_34 (fun H locs hP hD hS => ?_)
        refine lv_if_eq (tgt := 62) hx hb dX4_addsWell_37 (by decide) (fun c5 => ?_) (fun c5 => ?_)
        · replace hc := ite_t c5 hc
          refine lv_iconst (v := (-1)) hx hb dX4_addsWell_62 (by decide) ?_
          exact hend H locs _ _ _ _ (some_fst hc) (some_snd hc) rfl hP hD hS dX4_addsWell_63
        · replace hc := ite_f c5 hc
          refine lv_iload_n hx hb dX4_addsWell_40 rfl (lv_at hl 4 rfl) ?_
          refine lv_iconst (v := 0) hx hb dX4_addsWell_41 (by decide) ?_
          refine lv_bipush (v := 100) hx hb dX4_addsWell_42 (by decide +kernel) ?_
          obtain ⟨x6, hc6, hc⟩ := b1_some hc
          refine gc_SI (n := 3) (w' := MW cy a V) hx hb hml hown hts hK hP hD hS hA hl.1 ⟨Nat.le_refl _, Nat.le_refl _⟩ (C_X4_in l D cy p3 0 100 x6 hc6) gX4_addsWell_X4_in rfl (by decide +kernel) rfl ⟨by decide, by decide⟩ Jn.none rfl (Nat.le_of_ble_eq_true rfl) dX4_addsWell_44 (fun H locs hP hD hS => ?_)
          refine lv_if_eq (tgt := 62) hx hb dX4_addsWell_47 (by decide) (fun c7 => ?_) (fun c7 => ?_)
          · replace hc := ite_t c7 hc
            refine lv_iconst (v := (-1)) hx hb dX4_addsWell_62 (by decide) ?_
            exact hend H locs _ _ _ _ (some_fst hc) (some_snd hc) rfl hP hD hS dX4_addsWell_63
          · replace hc := ite_f c7 hc
            refine lv_iload hx hb dX4_addsWell_50 (lv_at hl 5 rfl) ?_
            refine lv_iconst (v := 0) hx hb dX4_addsWell_52 (by decide) ?_
            refine lv_sipush (v := 1000) hx hb dX4_addsWell_53 (by decide +kernel) ?_
            obtain ⟨x8, hc8, hc⟩ := b1_some hc
            refine gc_SI (n := 3) (w' := MW cy a V) hx hb hml hown hts hK hP hD hS hA hl.1 ⟨Nat.le_refl _, Nat.le_refl _⟩ (C_X4_in l D cy p4 0 1000 x8 hc8) gX4_addsWell_X4_in rfl (by decide +kernel) rfl ⟨by decide, by decide⟩ Jn.none rfl (Nat.le_of_ble_eq_true rfl) dX4_addsWell_56 (fun H locs hP hD hS => ?_)
            refine lv_if_ne (tgt := 64) hx hb dX4_addsWell_59 (by decide) (fun c9 => ?_) (fun c9 => ?_)
            · replace hc := ite_f c9 hc
              refine lv_iload hx hb dX4_addsWell_64 (lv_at hl 0 rfl) ?_
              refine lv_bipush (v := 12) hx hb dX4_addsWell_66 (by decide +kernel) ?_
              refine lv_icmp_ne (tgt := 74) hx hb dX4_addsWell_68 (by decide) (fun c10 => ?_) (fun c10 => ?_)
              · replace hc := ite_f c10 hc
                refine lv_iconst (v := 0) hx hb dX4_addsWell_74 (by decide) ?_
                refine lv_istore (lv' := [(6, .int 0), (5, .int (V 1 3)), (0, .ref (a 0)), (1, .int p1), (2, .int p2), (3, .int p3), (4, .int p4)]) hx hb dX4_addsWell_75 hl (by decide) rfl (fun ls hl => ?_)
                exact L77 FUEL p1 p2 p3 p4 (V 1 3) 0 V H locs ls hc hP hD hS (lv_sub hl [2, 3, 4, 5, 6, 1, 0] rfl)
              · replace hc := ite_t c10 hc
                refine lv_bipush (v := (-3)) hx hb dX4_addsWell_71 (by decide +kernel) ?_
                exact hend H locs _ _ _ _ (some_fst hc) (some_snd hc) rfl hP hD hS dX4_addsWell_73
            · replace hc := ite_t c9 hc
              refine lv_iconst (v := (-1)) hx hb dX4_addsWell_62 (by decide) ?_
              exact hend H locs _ _ _ _ (some_fst hc) (some_snd hc) rfl hP hD hS dX4_addsWell_63
    · replace hc := ite_t c1 hc
      refine lv_iload_n hx hb dX4_addsWell_13 rfl (lv_at hl 2 rfl) ?_
      refine lv_iconst (v := (-1)) hx hb dX4_addsWell_14 (by decide) ?_
      refine lv_icmp_ne (tgt := 62) hx hb dX4_addsWell_15 (by decide) (fun c18 => ?_) (fun c18 => ?_)
      · replace hc := ite_f c18 hc
        refine lv_iconst (v := (-1)) hx hb dX4_addsWell_62 (by decide) ?_
        exact hend H locs _ _ _ _ (some_fst hc) (some_snd hc) rfl hP hD hS dX4_addsWell_63
      · replace hc := ite_t c18 hc
        refine lv_goto (tgt := 29) hx hb dX4_addsWell_18 (by decide) ?_
        refine lv_iload_n hx hb dX4_addsWell_29 rfl (lv_at hl 3 rfl) ?_
        refine lv_iconst (v := 1) hx hb dX4_addsWell_30 (by decide) ?_
        refine lv_sipush (v := 1000) hx hb dX4_addsWell_31 (by decide +kernel) ?_
        obtain ⟨x19, hc19, hc⟩ := b1_some hc
        refine gc_SI (n := 3) (w' := MW cy a V) hx hb hml hown hts hK hP hD hS hA hl.1 ⟨Nat.le_refl _, Nat.le_refl _⟩ (C_X4_in l D cy p2 1 1000 x19 hc19) gX4_addsWell_X4_in rfl (by decide +kernel) rfl ⟨by decide, by decide⟩ Jn.none rfl (Nat.le_of_ble_eq_true rfl) dX4_addsWell_34 (fun H locs hP hD hS => ?_)
        refine lv_if_eq (tgt := 62) hx hb dX4_addsWell_37 (by decide) (fun c20 => ?_) (fun c20 => ?_)
        · replace hc := ite_t c20 hc
          refine lv_iconst (v := (-1)) hx hb dX4_addsWell_62 (by decide) ?_
          exact hend H locs _ _ _ _ (some_fst hc) (some_snd hc) rfl hP hD hS dX4_addsWell_63
        · replace hc := ite_f c20 hc
          refine lv_iload_n hx hb dX4_addsWell_40 rfl (lv_at hl 4 rfl) ?_
          refine lv_iconst (v := 0) hx hb dX4_addsWell_41 (by decide) ?_
          refine lv_bipush (v := 100) hx hb dX4_addsWell_42 (by decide +kernel) ?_
          obtain ⟨x21, hc21, hc⟩ := b1_some hc
          refine gc_SI (n := 3) (w' := MW cy a V) hx hb hml hown hts hK hP hD hS hA hl.1 ⟨Nat.le_refl _, Nat.le_refl _⟩ (C_X4_in l D cy p3 0 100 x21 hc21) gX4_addsWell_X4_in rfl (by decide +kernel) rfl ⟨by decide, by decide⟩ Jn.none rfl (Nat.le_of_ble_eq_true rfl) dX4_addsWell_44 (fun H locs hP hD hS => ?_)
          refine lv_if_eq (tgt := 62) hx hb dX4_addsWell_47 (by decide) (fun c22 => ?_) (fun c22 => ?_)
          · replace hc := ite_t c22 hc
            refine lv_iconst (v := (-1)) hx hb dX4_addsWell_62 (by decide) ?_
            exact hend H locs _ _ _ _ (some_fst hc) (some_snd hc) rfl hP hD hS dX4_addsWell_63
          · replace hc := ite_f c22 hc
            refine lv_iload hx hb dX4_addsWell_50 (lv_at hl 5 rfl) ?_
            refine lv_iconst (v := 0) hx hb dX4_addsWell_52 (by decide) ?_
            refine lv_sipush (v := 1000) hx hb dX4_addsWell_53 (by decide +kernel) ?_
            obtain ⟨x23, hc23, hc⟩ := b1_some hc
            refine gc_SI (n := 3) (w' := MW cy a V) hx hb hml hown hts hK hP hD hS hA hl.1 ⟨Nat.le_refl _, Nat.le_refl _⟩ (C_X4_in l D cy p4 0 1000 x23 hc23) gX4_addsWell_X4_in rfl (by decide +kernel) rfl ⟨by decide, by decide⟩ Jn.none rfl (Nat.le_of_ble_eq_true rfl) dX4_addsWell_56 (fun H locs hP hD hS => ?_)
            refine lv_if_ne (tgt := 64) hx hb dX4_addsWell_59 (by decide) (fun c24 => ?_) (fun c24 => ?_)
            · replace hc := ite_f c24 hc
              refine lv_iload hx hb dX4_addsWell_64 (lv_at hl 0 rfl) ?_
              refine lv_bipush (v := 12) hx hb dX4_addsWell_66 (by decide +kernel) ?_
              refine lv_icmp_ne (tgt := 74) hx hb dX4_addsWell_68 (by decide) (fun c25 => ?_) (fun c25 => ?_)
              · replace hc := ite_f c25 hc
                refine lv_iconst (v := 0) hx hb dX4_addsWell_74 (by decide) ?_
                refine lv_istore (lv' := [(6, .int 0), (5, .int (V 1 3)), (0, .ref (a 0)), (1, .int p1), (2, .int p2), (3, .int p3), (4, .int p4)]) hx hb dX4_addsWell_75 hl (by decide) rfl (fun ls hl => ?_)
                exact L77 FUEL p1 p2 p3 p4 (V 1 3) 0 V H locs ls hc hP hD hS (lv_sub hl [2, 3, 4, 5, 6, 1, 0] rfl)
              · replace hc := ite_t c25 hc
                refine lv_bipush (v := (-3)) hx hb dX4_addsWell_71 (by decide +kernel) ?_
                exact hend H locs _ _ _ _ (some_fst hc) (some_snd hc) rfl hP hD hS dX4_addsWell_73
            · replace hc := ite_t c24 hc
              refine lv_iconst (v := (-1)) hx hb dX4_addsWell_62 (by decide) ?_
              exact hend H locs _ _ _ _ (some_fst hc) (some_snd hc) rfl hP hD hS dX4_addsWell_63
  rw [hHe, hLe] at goal0
  exact goal0
set_option maxHeartbeats 4000000 in
set_option maxRecDepth 100000 in
theorem C_X4_well (l : Launch) (D : va_G) (cy : Nat → ClassId) (a : Nat → Nat) (V : FV) (p1 : Int32) (p2 : Int32) (p3 : Int32) (p4 : Int32) (r : Int32) (V' : FV) (hc : f_X4_well V p1 p2 p3 p4 = some (r, V')) : ConI l yX4_well wsX4_well 3 69 D cy (MW cy a) [.ref (a 0), .int p1, .int p2, .int p3, .int p4] V V' r := by
  refine bodyI (cc := cX4_well) (maxL := 5) (ty := .int) (by decide +kernel) rfl (Nat.le_of_ble_eq_true rfl) ?_
  intro p e s m args below meth c A Q hx hb hml hts hown hK hP hD hA hS hend ls hl
  have hown : s.vm.findClass RX4 = some m.cls := hown
  have hP : va_P D vwCl (MW cy a V) s.heap := hP
  have hD : va_D A (MW cy a V) := hD
  have hl : lv_has ls 5 [(0, .ref (a 0)), (1, .int p1), (2, .int p2), (3, .int p3), (4, .int p4)] := hl
  have hend : ∀ (H : Heap) (locs : List Loc) (pc : Nat) (ls : Array Slot) (v : Int32) (V : FV), v = r → V = V' → narrow .int (.int v) = .int v → va_P D vwCl (MW cy a V) H → va_D A (MW cy a V) → va_S A s.heap H locs → decode cX4_well pc = .ok (.ireturn, 1) → W p l e (RM 3 69) s m args below meth c H locs 0 0 Q (F0 m pc ls [.int v]) := fun H locs pc ls v V h1 h2 h3 h4 h5 h6 h7 => hend H locs pc ls v V h1 h2 h3 h4 h5 h6 h7
  obtain ⟨H, hHe⟩ : ∃ H : Heap, H = s.heap := ⟨_, rfl⟩
  obtain ⟨locs, hLe⟩ : ∃ x : List Loc, x = [] := ⟨_, rfl⟩
  have hP : va_P D vwCl (MW cy a V) H := by rw [hHe]; exact hP
  have hS : va_S A s.heap H locs := by rw [hHe, hLe]; exact hS
  have goal0 : W p l e (RM 3 69) s m args below meth c H locs 0 0 Q (F0 m 0 ls []) := by
    refine lv_aload_n hx hb dX4_well_0 rfl (lv_at hl 0 rfl) ?_
    obtain ⟨V1, hc1, hc⟩ := b1_some hc
    refine gc_VV (n := 0) (q0 := 0) (ci := 4) (w' := MW cy a V1) hx hb hml hown hts hK hP hD hS hA hl.1 ⟨Nat.le_refl _, Nat.le_refl _⟩ (C_X4_copy l D cy a V V1 hc1) gX4_well_X4_copy rfl (by decide +kernel) rfl ⟨by decide, by decide⟩ Jn.same rfl rfl rfl (Nat.le_of_ble_eq_true rfl) dX4_well_1 (fun H locs hP hD hS => ?_)
    refine lv_aload_n hx hb dX4_well_4 rfl (lv_at hl 0 rfl) ?_
    refine lv_aload_n hx hb dX4_well_5 rfl (lv_at hl 0 rfl) ?_
    refine lv_iload_n hx hb dX4_well_6 rfl (lv_at hl 1 rfl) ?_
    refine lv_iload_n hx hb dX4_well_7 rfl (lv_at hl 2 rfl) ?_
    refine lv_iload_n hx hb dX4_well_8 rfl (lv_at hl 3 rfl) ?_
    refine lv_iload hx hb dX4_well_9 (lv_at hl 4 rfl) ?_
    obtain ⟨x2, V2, hc2, hc⟩ := b2_some hc
    refine gc_VI (n := 4) (q0 := 0) (ci := 4) (w' := MW cy a V2) hx hb hml hown hts hK hP hD hS hA hl.1 ⟨Nat.le_refl _, Nat.le_refl _⟩ (C_X4_addsWell l D cy a V1 p1 p2 p3 p4 x2 V2 hc2) gX4_well_X4_addsWell rfl (by decide +kernel) rfl ⟨by decide, by decide⟩ Jn.same rfl rfl rfl (Nat.le_of_ble_eq_true rfl) dX4_well_11 (fun H locs hP hD hS => ?_)
    obtain ⟨x3, V3, hc3, hc⟩ := b2_some hc
    refine gc_VI (n := 1) (q0 := 0) (ci := 4) (w' := MW cy a V3) hx hb hml hown hts hK hP hD hS hA hl.1 ⟨Nat.le_refl _, Nat.le_refl _⟩ (C_X4_recorded l D cy a V2 x2 x3 V3 hc3) gX4_well_X4_recorded rfl (by decide +kernel) rfl ⟨by decide, by decide⟩ Jn.same rfl rfl rfl (Nat.le_of_ble_eq_true rfl) dX4_well_14 (fun H locs hP hD hS => ?_)
    exact hend H locs _ _ _ _ (some_fst hc) (some_snd hc) rfl hP hD hS dX4_well_17
  rw [hHe, hLe] at goal0
  exact goal0
set_option maxHeartbeats 4000000 in
set_option maxRecDepth 100000 in
theorem C_X4_addsDrought (l : Launch) (D : va_G) (cy : Nat → ClassId) (a : Nat → Nat) (V : FV) (p1 : Int32) (p2 : Int32) (p3 : Int32) (r : Int32) (V' : FV) (hc : f_X4_addsDrought V p1 p2 p3 = some (r, V')) : ConI l yX4_addsDrought wsX4_addsDrought 2 43 D cy (MW cy a) [.ref (a 0), .int p1, .int p2, .int p3] V V' r := by
  refine bodyI (cc := cX4_addsDrought) (maxL := 5) (ty := .int) (by decide +kernel) rfl (Nat.le_of_ble_eq_true rfl) ?_
  intro p e s m args below meth c A Q hx hb hml hts hown hK hP hD hA hS hend ls hl
  have hown : s.vm.findClass RX4 = some m.cls := hown
  have hP : va_P D vwCl (MW cy a V) s.heap := hP
  have hD : va_D A (MW cy a V) := hD
  have hl : lv_has ls 5 [(0, .ref (a 0)), (1, .int p1), (2, .int p2), (3, .int p3)] := hl
  have hend : ∀ (H : Heap) (locs : List Loc) (pc : Nat) (ls : Array Slot) (v : Int32) (V : FV), v = r → V = V' → narrow .int (.int v) = .int v → va_P D vwCl (MW cy a V) H → va_D A (MW cy a V) → va_S A s.heap H locs → decode cX4_addsDrought pc = .ok (.ireturn, 1) → W p l e (RM 2 43) s m args below meth c H locs 0 0 Q (F0 m pc ls [.int v]) := fun H locs pc ls v V h1 h2 h3 h4 h5 h6 h7 => hend H locs pc ls v V h1 h2 h3 h4 h5 h6 h7
  have fl_7 := hts (.fieldLink RX4 7 "NoonWellsModel" "now" "[I") (by decide +kernel)
  have inw_X4 := (by decide +kernel : ∀ w ∈ u_ws RX4 TX4 12, w ∈ wsX4_addsDrought)
  obtain ⟨H, hHe⟩ : ∃ H : Heap, H = s.heap := ⟨_, rfl⟩
  obtain ⟨locs, hLe⟩ : ∃ x : List Loc, x = [] := ⟨_, rfl⟩
  have hP : va_P D vwCl (MW cy a V) H := by rw [hHe]; exact hP
  have hS : va_S A s.heap H locs := by rw [hHe, hLe]; exact hS
  have goal0 : W p l e (RM 2 43) s m args below meth c H locs 0 0 Q (F0 m 0 ls []) := by
    refine lv_aload_n hx hb dX4_addsDrought_0 rfl (lv_at hl 0 rfl) ?_
    refine lv_iload_n hx hb dX4_addsDrought_1 rfl (lv_at hl 1 rfl) ?_
    obtain ⟨x1, hc1, hc⟩ := b1_some hc
    refine gc_VI (n := 1) (q0 := 0) (ci := 4) (w' := MW cy a V) hx hb hml hown hts hK hP hD hS hA hl.1 ⟨Nat.le_refl _, Nat.le_refl _⟩ (C_X4_isWell l D cy a V p1 x1 hc1) gX4_addsDrought_X4_isWell rfl (by decide +kernel) rfl ⟨by decide, by decide⟩ Jn.same rfl rfl rfl (Nat.le_of_ble_eq_true rfl) dX4_addsDrought_2 (fun H locs hP hD hS => ?_)
    refine lv_if_eq (tgt := 35) hx hb dX4_addsDrought_5 (by decide) (fun c2 => ?_) (fun c2 => ?_)
    · replace hc := ite_t c2 hc
      refine lv_iconst (v := (-1)) hx hb dX4_addsDrought_35 (by decide) ?_
      exact hend H locs _ _ _ _ (some_fst hc) (some_snd hc) rfl hP hD hS dX4_addsDrought_36
    · replace hc := ite_f c2 hc
      refine lv_iload_n hx hb dX4_addsDrought_8 rfl (lv_at hl 2 rfl) ?_
      refine lv_aload_n hx hb dX4_addsDrought_9 rfl (lv_at hl 0 rfl) ?_
      refine va_get (ci := 4) (v := .ref (a 1)) (C := RX4) (T := TX4) (N := 12) hx hb hts inw_X4 hown hK.1 hP 0 rfl rfl 0 (by decide) fl_7 (fun _ h9 => h9) rfl dX4_addsDrought_10 ?_
      refine lv_iconst (v := 0) hx hb dX4_addsDrought_13 (by decide) ?_
      refine g_iald (x := V 1 0) hx hb hK hP 1 rfl (vp_lit (by decide)) rfl dX4_addsDrought_14 ?_
      refine lv_iconst (v := 1) hx hb dX4_addsDrought_15 (by decide) ?_
      refine lv_iadd hx hb dX4_addsDrought_16 ?_
      refine lv_ldc (v := 60000) hx hb hown (hts (.constant RX4 59 60000) (by decide +kernel)) dX4_addsDrought_17 ?_
      obtain ⟨x3, hc3, hc⟩ := b1_some hc
      refine gc_SI (n := 3) (w' := MW cy a V) hx hb hml hown hts hK hP hD hS hA hl.1 ⟨Nat.le_refl _, Nat.le_refl _⟩ (C_X4_in l D cy p2 ((V 1 0) + 1) 60000 x3 hc3) gX4_addsDrought_X4_in rfl (by decide +kernel) rfl ⟨by decide, by decide⟩ Jn.none rfl (Nat.le_of_ble_eq_true rfl) dX4_addsDrought_19 (fun H locs hP hD hS => ?_)
      refine lv_if_eq (tgt := 35) hx hb dX4_addsDrought_22 (by decide) (fun c4 => ?_) (fun c4 => ?_)
      · replace hc := ite_t c4 hc
        refine lv_iconst (v := (-1)) hx hb dX4_addsDrought_35 (by decide) ?_
        exact hend H locs _ _ _ _ (some_fst hc) (some_snd hc) rfl hP hD hS dX4_addsDrought_36
      · replace hc := ite_f c4 hc
        refine lv_iload_n hx hb dX4_addsDrought_25 rfl (lv_at hl 3 rfl) ?_
        refine lv_iload_n hx hb dX4_addsDrought_26 rfl (lv_at hl 2 rfl) ?_
        refine lv_ldc (v := 60000) hx hb hown (hts (.constant RX4 59 60000) (by decide +kernel)) dX4_addsDrought_27 ?_
        obtain ⟨x5, hc5, hc⟩ := b1_some hc
        refine gc_SI (n := 3) (w' := MW cy a V) hx hb hml hown hts hK hP hD hS hA hl.1 ⟨Nat.le_refl _, Nat.le_refl _⟩ (C_X4_in l D cy p3 p2 60000 x5 hc5) gX4_addsDrought_X4_in rfl (by decide +kernel) rfl ⟨by decide, by decide⟩ Jn.none rfl (Nat.le_of_ble_eq_true rfl) dX4_addsDrought_29 (fun H locs hP hD hS => ?_)
        refine lv_if_ne (tgt := 37) hx hb dX4_addsDrought_32 (by decide) (fun c6 => ?_) (fun c6 => ?_)
        · replace hc := ite_f c6 hc
          refine lv_aload_n hx hb dX4_addsDrought_37 rfl (lv_at hl 0 rfl) ?_
          refine va_get (ci := 4) (v := .ref (a 1)) (C := RX4) (T := TX4) (N := 12) hx hb hts inw_X4 hown hK.1 hP 0 rfl rfl 0 (by decide) fl_7 (fun _ h9 => h9) rfl dX4_addsDrought_38 ?_
          refine lv_iconst (v := 4) hx hb dX4_addsDrought_41 (by decide) ?_
          refine g_iald (x := V 1 4) hx hb hK hP 1 rfl (vp_lit (by decide)) rfl dX4_addsDrought_42 ?_
          refine lv_bipush (v := 20) hx hb dX4_addsDrought_43 (by decide +kernel) ?_
          refine lv_icmp_ne (tgt := 51) hx hb dX4_addsDrought_45 (by decide) (fun c7 => ?_) (fun c7 => ?_)
          · replace hc := ite_f c7 hc
            refine lv_sipush (v := 152) hx hb dX4_addsDrought_51 (by decide +kernel) ?_
            refine lv_iconst (v := 3) hx hb dX4_addsDrought_54 (by decide) ?_
            refine lv_aload_n hx hb dX4_addsDrought_55 rfl (lv_at hl 0 rfl) ?_
            refine va_get (ci := 4) (v := .ref (a 1)) (C := RX4) (T := TX4) (N := 12) hx hb hts inw_X4 hown hK.1 hP 0 rfl rfl 0 (by decide) fl_7 (fun _ h9 => h9) rfl dX4_addsDrought_56 ?_
            refine lv_iconst (v := 4) hx hb dX4_addsDrought_59 (by decide) ?_
            refine g_iald (x := V 1 4) hx hb hK hP 1 rfl (vp_lit (by decide)) rfl dX4_addsDrought_60 ?_
            refine lv_imul hx hb dX4_addsDrought_61 ?_
            refine lv_iadd hx hb dX4_addsDrought_62 ?_
            refine lv_istore (lv' := [(4, .int (152 + (3 * (V 1 4)))), (0, .ref (a 0)), (1, .int p1), (2, .int p2), (3, .int p3)]) hx hb dX4_addsDrought_63 hl (by decide) rfl (fun ls hl => ?_)
            refine lv_aload_n hx hb dX4_addsDrought_65 rfl (lv_at hl 1 rfl) ?_
            refine va_get (ci := 4) (v := .ref (a 1)) (C := RX4) (T := TX4) (N := 12) hx hb hts inw_X4 hown hK.1 hP 0 rfl rfl 0 (by decide) fl_7 (fun _ h9 => h9) rfl dX4_addsDrought_66 ?_
            refine lv_iload hx hb dX4_addsDrought_69 (lv_at hl 0 rfl) ?_
            refine lv_iload_n hx hb dX4_addsDrought_71 rfl (lv_at hl 2 rfl) ?_
            obtain ⟨V8, hi8, eV8, hc⟩ := wr_some hc
            refine g_iast (w' := MW cy a V8) hx hb hK hP hD hS 1 rfl hi8 (by rw [← eV8]; rfl) dX4_addsDrought_72 (fun H locs hP hD hS => ?_)
            refine lv_aload_n hx hb dX4_addsDrought_73 rfl (lv_at hl 1 rfl) ?_
            refine va_get (ci := 4) (v := .ref (a 1)) (C := RX4) (T := TX4) (N := 12) hx hb hts inw_X4 hown hK.1 hP 0 rfl rfl 0 (by decide) fl_7 (fun _ h9 => h9) rfl dX4_addsDrought_74 ?_
            refine lv_iload hx hb dX4_addsDrought_77 (lv_at hl 0 rfl) ?_
            refine lv_iconst (v := 1) hx hb dX4_addsDrought_79 (by decide) ?_
            refine lv_iadd hx hb dX4_addsDrought_80 ?_
            refine lv_iload_n hx hb dX4_addsDrought_81 rfl (lv_at hl 3 rfl) ?_
            obtain ⟨V9, hi9, eV9, hc⟩ := wr_some hc
            refine g_iast (w' := MW cy a V9) hx hb hK hP hD hS 1 rfl hi9 (by rw [← eV9]; rfl) dX4_addsDrought_82 (fun H locs hP hD hS => ?_)
            refine lv_aload_n hx hb dX4_addsDrought_83 rfl (lv_at hl 1 rfl) ?_
            refine va_get (ci := 4) (v := .ref (a 1)) (C := RX4) (T := TX4) (N := 12) hx hb hts inw_X4 hown hK.1 hP 0 rfl rfl 0 (by decide) fl_7 (fun _ h9 => h9) rfl dX4_addsDrought_84 ?_
            refine lv_iload hx hb dX4_addsDrought_87 (lv_at hl 0 rfl) ?_
            refine lv_iconst (v := 2) hx hb dX4_addsDrought_89 (by decide) ?_
            refine lv_iadd hx hb dX4_addsDrought_90 ?_
            refine lv_iload_n hx hb dX4_addsDrought_91 rfl (lv_at hl 4 rfl) ?_
            obtain ⟨V10, hi10, eV10, hc⟩ := wr_some hc
            refine g_iast (w' := MW cy a V10) hx hb hK hP hD hS 1 rfl hi10 (by rw [← eV10]; rfl) dX4_addsDrought_92 (fun H locs hP hD hS => ?_)
            refine lv_aload_n hx hb dX4_addsDrought_93 rfl (lv_at hl 1 rfl) ?_
            refine va_get (ci := 4) (v := .ref (a 1)) (C := RX4) (T := TX4) (N := 12) hx hb hts inw_X4 hown hK.1 hP 0 rfl rfl 0 (by decide) fl_7 (fun _ h9 => h9) rfl dX4_addsDrought_94 ?_
            refine lv_iconst (v := 4) hx hb dX4_addsDrought_97 (by decide) ?_
            refine lv_dup2_11 hx hb dX4_addsDrought_98 rfl rfl ?_
            refine g_iald (x := V10 1 4) hx hb hK hP 1 rfl (vp_lit (by decide)) rfl dX4_addsDrought_99 ?_
            refine lv_iconst (v := 1) hx hb dX4_addsDrought_100 (by decide) ?_
            refine lv_iadd hx hb dX4_addsDrought_101 ?_
            obtain ⟨V11, eV11, hc⟩ := lt1_some hc
            refine g_iast (w' := MW cy a V11) hx hb hK hP hD hS 1 rfl (vp_lit (by decide)) (by rw [← eV11]; rfl) dX4_addsDrought_102 (fun H locs hP hD hS => ?_)
            refine lv_aload_n hx hb dX4_addsDrought_103 rfl (lv_at hl 1 rfl) ?_
            refine va_get (ci := 4) (v := .ref (a 1)) (C := RX4) (T := TX4) (N := 12) hx hb hts inw_X4 hown hK.1 hP 0 rfl rfl 0 (by decide) fl_7 (fun _ h9 => h9) rfl dX4_addsDrought_104 ?_
            refine lv_iconst (v := 4) hx hb dX4_addsDrought_107 (by decide) ?_
            refine g_iald (x := V11 1 4) hx hb hK hP 1 rfl (vp_lit (by decide)) rfl dX4_addsDrought_108 ?_
            refine lv_iconst (v := 1) hx hb dX4_addsDrought_109 (by decide) ?_
            refine lv_isub hx hb dX4_addsDrought_110 ?_
            exact hend H locs _ _ _ _ (some_fst hc) (some_snd hc) rfl hP hD hS dX4_addsDrought_111
          · replace hc := ite_t c7 hc
            refine lv_bipush (v := (-3)) hx hb dX4_addsDrought_48 (by decide +kernel) ?_
            exact hend H locs _ _ _ _ (some_fst hc) (some_snd hc) rfl hP hD hS dX4_addsDrought_50
        · replace hc := ite_t c6 hc
          refine lv_iconst (v := (-1)) hx hb dX4_addsDrought_35 (by decide) ?_
          exact hend H locs _ _ _ _ (some_fst hc) (some_snd hc) rfl hP hD hS dX4_addsDrought_36
  rw [hHe, hLe] at goal0
  exact goal0
set_option maxHeartbeats 4000000 in
set_option maxRecDepth 100000 in
theorem C_X4_drought (l : Launch) (D : va_G) (cy : Nat → ClassId) (a : Nat → Nat) (V : FV) (p1 : Int32) (p2 : Int32) (p3 : Int32) (r : Int32) (V' : FV) (hc : f_X4_drought V p1 p2 p3 = some (r, V')) : ConI l yX4_drought wsX4_drought 3 67 D cy (MW cy a) [.ref (a 0), .int p1, .int p2, .int p3] V V' r := by
  refine bodyI (cc := cX4_drought) (maxL := 4) (ty := .int) (by decide +kernel) rfl (Nat.le_of_ble_eq_true rfl) ?_
  intro p e s m args below meth c A Q hx hb hml hts hown hK hP hD hA hS hend ls hl
  have hown : s.vm.findClass RX4 = some m.cls := hown
  have hP : va_P D vwCl (MW cy a V) s.heap := hP
  have hD : va_D A (MW cy a V) := hD
  have hl : lv_has ls 4 [(0, .ref (a 0)), (1, .int p1), (2, .int p2), (3, .int p3)] := hl
  have hend : ∀ (H : Heap) (locs : List Loc) (pc : Nat) (ls : Array Slot) (v : Int32) (V : FV), v = r → V = V' → narrow .int (.int v) = .int v → va_P D vwCl (MW cy a V) H → va_D A (MW cy a V) → va_S A s.heap H locs → decode cX4_drought pc = .ok (.ireturn, 1) → W p l e (RM 3 67) s m args below meth c H locs 0 0 Q (F0 m pc ls [.int v]) := fun H locs pc ls v V h1 h2 h3 h4 h5 h6 h7 => hend H locs pc ls v V h1 h2 h3 h4 h5 h6 h7
  obtain ⟨H, hHe⟩ : ∃ H : Heap, H = s.heap := ⟨_, rfl⟩
  obtain ⟨locs, hLe⟩ : ∃ x : List Loc, x = [] := ⟨_, rfl⟩
  have hP : va_P D vwCl (MW cy a V) H := by rw [hHe]; exact hP
  have hS : va_S A s.heap H locs := by rw [hHe, hLe]; exact hS
  have goal0 : W p l e (RM 3 67) s m args below meth c H locs 0 0 Q (F0 m 0 ls []) := by
    refine lv_aload_n hx hb dX4_drought_0 rfl (lv_at hl 0 rfl) ?_
    obtain ⟨V1, hc1, hc⟩ := b1_some hc
    refine gc_VV (n := 0) (q0 := 0) (ci := 4) (w' := MW cy a V1) hx hb hml hown hts hK hP hD hS hA hl.1 ⟨Nat.le_refl _, Nat.le_refl _⟩ (C_X4_copy l D cy a V V1 hc1) gX4_drought_X4_copy rfl (by decide +kernel) rfl ⟨by decide, by decide⟩ Jn.same rfl rfl rfl (Nat.le_of_ble_eq_true rfl) dX4_drought_1 (fun H locs hP hD hS => ?_)
    refine lv_aload_n hx hb dX4_drought_4 rfl (lv_at hl 0 rfl) ?_
    refine lv_aload_n hx hb dX4_drought_5 rfl (lv_at hl 0 rfl) ?_
    refine lv_iload_n hx hb dX4_drought_6 rfl (lv_at hl 1 rfl) ?_
    refine lv_iload_n hx hb dX4_drought_7 rfl (lv_at hl 2 rfl) ?_
    refine lv_iload_n hx hb dX4_drought_8 rfl (lv_at hl 3 rfl) ?_
    obtain ⟨x2, V2, hc2, hc⟩ := b2_some hc
    refine gc_VI (n := 3) (q0 := 0) (ci := 4) (w' := MW cy a V2) hx hb hml hown hts hK hP hD hS hA hl.1 ⟨Nat.le_refl _, Nat.le_refl _⟩ (C_X4_addsDrought l D cy a V1 p1 p2 p3 x2 V2 hc2) gX4_drought_X4_addsDrought rfl (by decide +kernel) rfl ⟨by decide, by decide⟩ Jn.same rfl rfl rfl (Nat.le_of_ble_eq_true rfl) dX4_drought_9 (fun H locs hP hD hS => ?_)
    obtain ⟨x3, V3, hc3, hc⟩ := b2_some hc
    refine gc_VI (n := 1) (q0 := 0) (ci := 4) (w' := MW cy a V3) hx hb hml hown hts hK hP hD hS hA hl.1 ⟨Nat.le_refl _, Nat.le_refl _⟩ (C_X4_recorded l D cy a V2 x2 x3 V3 hc3) gX4_drought_X4_recorded rfl (by decide +kernel) rfl ⟨by decide, by decide⟩ Jn.same rfl rfl rfl (Nat.le_of_ble_eq_true rfl) dX4_drought_12 (fun H locs hP hD hS => ?_)
    exact hend H locs _ _ _ _ (some_fst hc) (some_snd hc) rfl hP hD hS dX4_drought_15
  rw [hHe, hLe] at goal0
  exact goal0
set_option maxHeartbeats 4000000 in
set_option maxRecDepth 100000 in
theorem C_X4_takes (l : Launch) (D : va_G) (cy : Nat → ClassId) (a : Nat → Nat) (V : FV) (p1 : Int32) (p2 : Int32) (r : Int32) (V' : FV) (hc : f_X4_takes V p1 p2 = some (r, V')) : ConI l yX4_takes wsX4_takes 2 45 D cy (MW cy a) [.ref (a 0), .int p1, .int p2] V V' r := by
  refine bodyI (cc := cX4_takes) (maxL := 7) (ty := .int) (by decide +kernel) rfl (Nat.le_of_ble_eq_true rfl) ?_
  intro p e s m args below meth c A Q hx hb hml hts hown hK hP hD hA hS hend ls hl
  have hown : s.vm.findClass RX4 = some m.cls := hown
  have hP : va_P D vwCl (MW cy a V) s.heap := hP
  have hD : va_D A (MW cy a V) := hD
  have hl : lv_has ls 7 [(0, .ref (a 0)), (1, .int p1), (2, .int p2)] := hl
  have hend : ∀ (H : Heap) (locs : List Loc) (pc : Nat) (ls : Array Slot) (v : Int32) (V : FV), v = r → V = V' → narrow .int (.int v) = .int v → va_P D vwCl (MW cy a V) H → va_D A (MW cy a V) → va_S A s.heap H locs → decode cX4_takes pc = .ok (.ireturn, 1) → W p l e (RM 2 45) s m args below meth c H locs 0 0 Q (F0 m pc ls [.int v]) := fun H locs pc ls v V h1 h2 h3 h4 h5 h6 h7 => hend H locs pc ls v V h1 h2 h3 h4 h5 h6 h7
  have fl_7 := hts (.fieldLink RX4 7 "NoonWellsModel" "now" "[I") (by decide +kernel)
  have inw_X4 := (by decide +kernel : ∀ w ∈ u_ws RX4 TX4 12, w ∈ wsX4_takes)
  have L8 : ∀ (n : Nat), ∀ (y1 y2 y3 y4 y5 : Int32) (V : FV) (H : Heap) (locs : List Loc) (ls : Array Slot), f_X4_takes_L8 n y1 y2 y3 y4 y5 V = some (r, V') → va_P D vwCl (MW cy a V) H → va_D A (MW cy a V) → va_S A s.heap H locs → lv_has ls 7 [(0, .ref (a 0)), (1, .int y1), (2, .int y2), (3, .int y3), (4, .int y4), (5, .int y5)] → W p l e (RM 2 45) s m args below meth c H locs 0 0 Q (F0 m 8 ls []) := by
    intro n
    induction n with
    | zero =>
      intro y1 y2 y3 y4 y5 V H locs ls hc
      cases hc
    | succ n ih =>
      intro y1 y2 y3 y4 y5 V H locs ls hc hP hD hS hl
      refine lv_iload hx hb dX4_takes_8 (lv_at hl 5 rfl) ?_
      refine lv_if_lt (tgt := 88) hx hb dX4_takes_10 (by decide) (fun c1 => ?_) (fun c1 => ?_)
      · replace hc := ite_t c1 hc
        refine lv_aload_n hx hb dX4_takes_88 rfl (lv_at hl 0 rfl) ?_
        refine va_get (ci := 4) (v := .ref (a 1)) (C := RX4) (T := TX4) (N := 12) hx hb hts inw_X4 hown hK.1 hP 0 rfl rfl 0 (by decide) fl_7 (fun _ h9 => h9) rfl dX4_takes_89 ?_
        refine lv_bipush (v := 6) hx hb dX4_takes_92 (by decide +kernel) ?_
        refine lv_dup2_11 hx hb dX4_takes_94 rfl rfl ?_
        refine g_iald (x := V 1 6) hx hb hK hP 1 rfl (vp_lit (by decide)) rfl dX4_takes_95 ?_
        refine lv_iload_n hx hb dX4_takes_96 rfl (lv_at hl 2 rfl) ?_
        refine lv_iadd hx hb dX4_takes_97 ?_
        obtain ⟨V2, eV2, hc⟩ := lt1_some hc
        refine g_iast (w' := MW cy a V2) hx hb hK hP hD hS 1 rfl (vp_lit (by decide)) (by rw [← eV2]; rfl) dX4_takes_98 (fun H locs hP hD hS => ?_)
        refine lv_iload hx hb dX4_takes_99 (lv_at hl 4 rfl) ?_
        exact hend H locs _ _ _ _ (some_fst hc) (some_snd hc) rfl hP hD hS dX4_takes_101
      · replace hc := ite_f c1 hc
        refine lv_aload_n hx hb dX4_takes_13 rfl (lv_at hl 0 rfl) ?_
        refine lv_iload_n hx hb dX4_takes_14 rfl (lv_at hl 1 rfl) ?_
        refine lv_iload hx hb dX4_takes_15 (lv_at hl 5 rfl) ?_
        refine lv_iload_n hx hb dX4_takes_17 rfl (lv_at hl 3 rfl) ?_
        obtain ⟨x3, hc3, hc⟩ := b1_some hc
        refine gc_VI (n := 3) (q0 := 0) (ci := 4) (w' := MW cy a V) hx hb hml hown hts hK hP hD hS hA hl.1 ⟨Nat.le_refl _, Nat.le_refl _⟩ (C_X4_part l D cy a V y1 y5 y3 x3 hc3) gX4_takes_X4_part rfl (by decide +kernel) rfl ⟨by decide, by decide⟩ Jn.same rfl rfl rfl (Nat.le_of_ble_eq_true rfl) dX4_takes_18 (fun H locs hP hD hS => ?_)
        refine lv_istore (lv' := [(6, .int x3), (0, .ref (a 0)), (1, .int y1), (2, .int y2), (3, .int y3), (4, .int y4), (5, .int y5)]) hx hb dX4_takes_21 hl (by decide) rfl (fun ls hl => ?_)
        refine lv_aload_n hx hb dX4_takes_23 rfl (lv_at hl 1 rfl) ?_
        refine lv_iload hx hb dX4_takes_24 (lv_at hl 6 rfl) ?_
        refine lv_iconst (v := 4) hx hb dX4_takes_26 (by decide) ?_
        refine lv_iload hx hb dX4_takes_27 (lv_at hl 0 rfl) ?_
        refine lv_ineg hx hb dX4_takes_29 ?_
        obtain ⟨V4, hc4, hc⟩ := b1_some hc
        refine gc_VV (n := 3) (q0 := 0) (ci := 4) (w' := MW cy a V4) hx hb hml hown hts hK hP hD hS hA hl.1 ⟨Nat.le_refl _, Nat.le_refl _⟩ (C_X4_adds l D cy a V y5 4 (-x3) V4 hc4) gX4_takes_X4_adds rfl (by decide +kernel) rfl ⟨by decide, by decide⟩ Jn.same rfl rfl rfl (Nat.le_of_ble_eq_true rfl) dX4_takes_30 (fun H locs hP hD hS => ?_)
        refine lv_aload_n hx hb dX4_takes_33 rfl (lv_at hl 1 rfl) ?_
        refine lv_iload hx hb dX4_takes_34 (lv_at hl 6 rfl) ?_
        refine lv_iload hx hb dX4_takes_36 (lv_at hl 6 rfl) ?_
        refine lv_iload_n hx hb dX4_takes_38 rfl (lv_at hl 2 rfl) ?_
        refine lv_icmp_ne (tgt := 47) hx hb dX4_takes_39 (by decide) (fun c5 => ?_) (fun c5 => ?_)
        · replace hc := ite_f c5 hc
          refine lv_bipush (v := 9) hx hb dX4_takes_47 (by decide +kernel) ?_
          refine lv_iload hx hb dX4_takes_49 (lv_at hl 0 rfl) ?_
          obtain ⟨V6, hc6, hc⟩ := b1_some hc
          refine gc_VV (n := 3) (q0 := 0) (ci := 4) (w' := MW cy a V6) hx hb hml hown hts hK hP hD hS hA hl.1 ⟨Nat.le_refl _, Nat.le_refl _⟩ (C_X4_adds l D cy a V4 y5 9 x3 V6 hc6) gX4_takes_X4_adds rfl (by decide +kernel) rfl ⟨by decide, by decide⟩ Jn.same rfl rfl rfl (Nat.le_of_ble_eq_true rfl) dX4_takes_51 (fun H locs hP hD hS => ?_)
          refine lv_iload_n hx hb dX4_takes_54 rfl (lv_at hl 4 rfl) ?_
          refine lv_iload hx hb dX4_takes_55 (lv_at hl 0 rfl) ?_
          refine lv_isub hx hb dX4_takes_57 ?_
          refine lv_istore_n (lv' := [(3, .int (y3 - x3)), (6, .int x3), (0, .ref (a 0)), (1, .int y1), (2, .int y2), (4, .int y4), (5, .int y5)]) hx hb dX4_takes_58 rfl hl (by decide) rfl (fun ls hl => ?_)
          refine lv_iload hx hb dX4_takes_59 (lv_at hl 5 rfl) ?_
          refine lv_iload hx hb dX4_takes_61 (lv_at hl 6 rfl) ?_
          refine lv_iload_n hx hb dX4_takes_63 rfl (lv_at hl 3 rfl) ?_
          refine lv_icmp_ne (tgt := 71) hx hb dX4_takes_64 (by decide) (fun c7 => ?_) (fun c7 => ?_)
          · replace hc := ite_f c7 hc
            refine lv_iload hx hb dX4_takes_71 (lv_at hl 1 rfl) ?_
            refine lv_iadd hx hb dX4_takes_73 ?_
            refine lv_istore (lv' := [(4, .int (y4 + x3)), (3, .int (y3 - x3)), (6, .int x3), (0, .ref (a 0)), (1, .int y1), (2, .int y2), (5, .int y5)]) hx hb dX4_takes_74 hl (by decide) rfl (fun ls hl => ?_)
            refine lv_aload_n hx hb dX4_takes_76 rfl (lv_at hl 3 rfl) ?_
            refine lv_iload hx hb dX4_takes_77 (lv_at hl 6 rfl) ?_
            refine lv_iconst (v := 0) hx hb dX4_takes_79 (by decide) ?_
            obtain ⟨x8, hc8, hc⟩ := b1_some hc
            refine gc_VI (n := 2) (q0 := 0) (ci := 4) (w' := MW cy a V6) hx hb hml hown hts hK hP hD hS hA hl.1 ⟨Nat.le_refl _, Nat.le_refl _⟩ (C_X4_of l D cy a V6 y5 0 x8 hc8) gX4_takes_X4_of rfl (by decide +kernel) rfl ⟨by decide, by decide⟩ Jn.same rfl rfl rfl (Nat.le_of_ble_eq_true rfl) dX4_takes_80 (fun H locs hP hD hS => ?_)
            refine lv_istore (lv' := [(5, .int x8), (4, .int (y4 + x3)), (3, .int (y3 - x3)), (6, .int x3), (0, .ref (a 0)), (1, .int y1), (2, .int y2)]) hx hb dX4_takes_83 hl (by decide) rfl (fun ls hl => ?_)
            refine lv_goto (tgt := 8) hx hb dX4_takes_85 (by decide) ?_
            exact ih y1 y2 (y3 - x3) (y4 + x3) x8 V6 H locs ls hc hP hD hS (lv_sub hl [4, 5, 6, 2, 1, 0] rfl)
          · replace hc := ite_t c7 hc
            refine lv_iconst (v := 0) hx hb dX4_takes_67 (by decide) ?_
            refine lv_goto (tgt := 73) hx hb dX4_takes_68 (by decide) ?_
            refine lv_iadd hx hb dX4_takes_73 ?_
            refine lv_istore (lv' := [(4, .int (y4 + 0)), (3, .int (y3 - x3)), (6, .int x3), (0, .ref (a 0)), (1, .int y1), (2, .int y2), (5, .int y5)]) hx hb dX4_takes_74 hl (by decide) rfl (fun ls hl => ?_)
            refine lv_aload_n hx hb dX4_takes_76 rfl (lv_at hl 3 rfl) ?_
            refine lv_iload hx hb dX4_takes_77 (lv_at hl 6 rfl) ?_
            refine lv_iconst (v := 0) hx hb dX4_takes_79 (by decide) ?_
            obtain ⟨x9, hc9, hc⟩ := b1_some hc
            refine gc_VI (n := 2) (q0 := 0) (ci := 4) (w' := MW cy a V6) hx hb hml hown hts hK hP hD hS hA hl.1 ⟨Nat.le_refl _, Nat.le_refl _⟩ (C_X4_of l D cy a V6 y5 0 x9 hc9) gX4_takes_X4_of rfl (by decide +kernel) rfl ⟨by decide, by decide⟩ Jn.same rfl rfl rfl (Nat.le_of_ble_eq_true rfl) dX4_takes_80 (fun H locs hP hD hS => ?_)
            refine lv_istore (lv' := [(5, .int x9), (4, .int (y4 + 0)), (3, .int (y3 - x3)), (6, .int x3), (0, .ref (a 0)), (1, .int y1), (2, .int y2)]) hx hb dX4_takes_83 hl (by decide) rfl (fun ls hl => ?_)
            refine lv_goto (tgt := 8) hx hb dX4_takes_85 (by decide) ?_
            exact ih y1 y2 (y3 - x3) (y4 + 0) x9 V6 H locs ls hc hP hD hS (lv_sub hl [4, 5, 6, 2, 1, 0] rfl)
        · replace hc := ite_t c5 hc
          refine lv_bipush (v := 8) hx hb dX4_takes_42 (by decide +kernel) ?_
          refine lv_goto (tgt := 49) hx hb dX4_takes_44 (by decide) ?_
          refine lv_iload hx hb dX4_takes_49 (lv_at hl 0 rfl) ?_
          obtain ⟨V10, hc10, hc⟩ := b1_some hc
          refine gc_VV (n := 3) (q0 := 0) (ci := 4) (w' := MW cy a V10) hx hb hml hown hts hK hP hD hS hA hl.1 ⟨Nat.le_refl _, Nat.le_refl _⟩ (C_X4_adds l D cy a V4 y5 8 x3 V10 hc10) gX4_takes_X4_adds rfl (by decide +kernel) rfl ⟨by decide, by decide⟩ Jn.same rfl rfl rfl (Nat.le_of_ble_eq_true rfl) dX4_takes_51 (fun H locs hP hD hS => ?_)
          refine lv_iload_n hx hb dX4_takes_54 rfl (lv_at hl 4 rfl) ?_
          refine lv_iload hx hb dX4_takes_55 (lv_at hl 0 rfl) ?_
          refine lv_isub hx hb dX4_takes_57 ?_
          refine lv_istore_n (lv' := [(3, .int (y3 - x3)), (6, .int x3), (0, .ref (a 0)), (1, .int y1), (2, .int y2), (4, .int y4), (5, .int y5)]) hx hb dX4_takes_58 rfl hl (by decide) rfl (fun ls hl => ?_)
          refine lv_iload hx hb dX4_takes_59 (lv_at hl 5 rfl) ?_
          refine lv_iload hx hb dX4_takes_61 (lv_at hl 6 rfl) ?_
          refine lv_iload_n hx hb dX4_takes_63 rfl (lv_at hl 3 rfl) ?_
          refine lv_icmp_ne (tgt := 71) hx hb dX4_takes_64 (by decide) (fun c11 => ?_) (fun c11 => ?_)
          · replace hc := ite_f c11 hc
            refine lv_iload hx hb dX4_takes_71 (lv_at hl 1 rfl) ?_
            refine lv_iadd hx hb dX4_takes_73 ?_
            refine lv_istore (lv' := [(4, .int (y4 + x3)), (3, .int (y3 - x3)), (6, .int x3), (0, .ref (a 0)), (1, .int y1), (2, .int y2), (5, .int y5)]) hx hb dX4_takes_74 hl (by decide) rfl (fun ls hl => ?_)
            refine lv_aload_n hx hb dX4_takes_76 rfl (lv_at hl 3 rfl) ?_
            refine lv_iload hx hb dX4_takes_77 (lv_at hl 6 rfl) ?_
            refine lv_iconst (v := 0) hx hb dX4_takes_79 (by decide) ?_
            obtain ⟨x12, hc12, hc⟩ := b1_some hc
            refine gc_VI (n := 2) (q0 := 0) (ci := 4) (w' := MW cy a V10) hx hb hml hown hts hK hP hD hS hA hl.1 ⟨Nat.le_refl _, Nat.le_refl _⟩ (C_X4_of l D cy a V10 y5 0 x12 hc12) gX4_takes_X4_of rfl (by decide +kernel) rfl ⟨by decide, by decide⟩ Jn.same rfl rfl rfl (Nat.le_of_ble_eq_true rfl) dX4_takes_80 (fun H locs hP hD hS => ?_)
            refine lv_istore (lv' := [(5, .int x12), (4, .int (y4 + x3)), (3, .int (y3 - x3)), (6, .int x3), (0, .ref (a 0)), (1, .int y1), (2, .int y2)]) hx hb dX4_takes_83 hl (by decide) rfl (fun ls hl => ?_)
            refine lv_goto (tgt := 8) hx hb dX4_takes_85 (by decide) ?_
            exact ih y1 y2 (y3 - x3) (y4 + x3) x12 V10 H locs ls hc hP hD hS (lv_sub hl [4, 5, 6, 2, 1, 0] rfl)
          · replace hc := ite_t c11 hc
            refine lv_iconst (v := 0) hx hb dX4_takes_67 (by decide) ?_
            refine lv_goto (tgt := 73) hx hb dX4_takes_68 (by decide) ?_
            refine lv_iadd hx hb dX4_takes_73 ?_
            refine lv_istore (lv' := [(4, .int (y4 + 0)), (3, .int (y3 - x3)), (6, .int x3), (0, .ref (a 0)), (1, .int y1), (2, .int y2), (5, .int y5)]) hx hb dX4_takes_74 hl (by decide) rfl (fun ls hl => ?_)
            refine lv_aload_n hx hb dX4_takes_76 rfl (lv_at hl 3 rfl) ?_
            refine lv_iload hx hb dX4_takes_77 (lv_at hl 6 rfl) ?_
            refine lv_iconst (v := 0) hx hb dX4_takes_79 (by decide) ?_
            obtain ⟨x13, hc13, hc⟩ := b1_some hc
            refine gc_VI (n := 2) (q0 := 0) (ci := 4) (w' := MW cy a V10) hx hb hml hown hts hK hP hD hS hA hl.1 ⟨Nat.le_refl _, Nat.le_refl _⟩ (C_X4_of l D cy a V10 y5 0 x13 hc13) gX4_takes_X4_of rfl (by decide +kernel) rfl ⟨by decide, by decide⟩ Jn.same rfl rfl rfl (Nat.le_of_ble_eq_true rfl) dX4_takes_80 (fun H locs hP hD hS => ?_)
            refine lv_istore (lv' := [(5, .int x13), (4, .int (y4 + 0)), (3, .int (y3 - x3)), (6, .int x3), (0, .ref (a 0)), (1, .int y1), (2, .int y2)]) hx hb dX4_takes_83 hl (by decide) rfl (fun ls hl => ?_)
            refine lv_goto (tgt := 8) hx hb dX4_takes_85 (by decide) ?_
            exact ih y1 y2 (y3 - x3) (y4 + 0) x13 V10 H locs ls hc hP hD hS (lv_sub hl [4, 5, 6, 2, 1, 0] rfl)
  obtain ⟨H, hHe⟩ : ∃ H : Heap, H = s.heap := ⟨_, rfl⟩
  obtain ⟨locs, hLe⟩ : ∃ x : List Loc, x = [] := ⟨_, rfl⟩
  have hP : va_P D vwCl (MW cy a V) H := by rw [hHe]; exact hP
  have hS : va_S A s.heap H locs := by rw [hHe, hLe]; exact hS
  have goal0 : W p l e (RM 2 45) s m args below meth c H locs 0 0 Q (F0 m 0 ls []) := by
    refine lv_iload_n hx hb dX4_takes_0 rfl (lv_at hl 2 rfl) ?_
    refine lv_istore_n (lv' := [(3, .int p2), (0, .ref (a 0)), (1, .int p1), (2, .int p2)]) hx hb dX4_takes_1 rfl hl (by decide) rfl (fun ls hl => ?_)
    refine lv_iconst (v := 0) hx hb dX4_takes_2 (by decide) ?_
    refine lv_istore (lv' := [(4, .int 0), (3, .int p2), (0, .ref (a 0)), (1, .int p1), (2, .int p2)]) hx hb dX4_takes_3 hl (by decide) rfl (fun ls hl => ?_)
    refine lv_iload_n hx hb dX4_takes_5 rfl (lv_at hl 3 rfl) ?_
    refine lv_istore (lv' := [(5, .int p1), (4, .int 0), (3, .int p2), (0, .ref (a 0)), (1, .int p1), (2, .int p2)]) hx hb dX4_takes_6 hl (by decide) rfl (fun ls hl => ?_)
    exact L8 FUEL p1 p2 p2 0 p1 V H locs ls hc hP hD hS (lv_sub hl [3, 4, 5, 2, 1, 0] rfl)
  rw [hHe, hLe] at goal0
  exact goal0
set_option maxHeartbeats 4000000 in
set_option maxRecDepth 100000 in
theorem C_X4_draws (l : Launch) (D : va_G) (cy : Nat → ClassId) (a : Nat → Nat) (V : FV) (p1 : Int32) (p2 : Int32) (r : Int32) (V' : FV) (hc : f_X4_draws V p1 p2 = some (r, V')) : ConI l yX4_draws wsX4_draws 3 71 D cy (MW cy a) [.ref (a 0), .int p1, .int p2] V V' r := by
  refine bodyI (cc := cX4_draws) (maxL := 3) (ty := .int) (by decide +kernel) rfl (Nat.le_of_ble_eq_true rfl) ?_
  intro p e s m args below meth c A Q hx hb hml hts hown hK hP hD hA hS hend ls hl
  have hown : s.vm.findClass RX4 = some m.cls := hown
  have hP : va_P D vwCl (MW cy a V) s.heap := hP
  have hD : va_D A (MW cy a V) := hD
  have hl : lv_has ls 3 [(0, .ref (a 0)), (1, .int p1), (2, .int p2)] := hl
  have hend : ∀ (H : Heap) (locs : List Loc) (pc : Nat) (ls : Array Slot) (v : Int32) (V : FV), v = r → V = V' → narrow .int (.int v) = .int v → va_P D vwCl (MW cy a V) H → va_D A (MW cy a V) → va_S A s.heap H locs → decode cX4_draws pc = .ok (.ireturn, 1) → W p l e (RM 3 71) s m args below meth c H locs 0 0 Q (F0 m pc ls [.int v]) := fun H locs pc ls v V h1 h2 h3 h4 h5 h6 h7 => hend H locs pc ls v V h1 h2 h3 h4 h5 h6 h7
  obtain ⟨H, hHe⟩ : ∃ H : Heap, H = s.heap := ⟨_, rfl⟩
  obtain ⟨locs, hLe⟩ : ∃ x : List Loc, x = [] := ⟨_, rfl⟩
  have hP : va_P D vwCl (MW cy a V) H := by rw [hHe]; exact hP
  have hS : va_S A s.heap H locs := by rw [hHe, hLe]; exact hS
  have goal0 : W p l e (RM 3 71) s m args below meth c H locs 0 0 Q (F0 m 0 ls []) := by
    refine lv_aload_n hx hb dX4_draws_0 rfl (lv_at hl 0 rfl) ?_
    refine lv_iload_n hx hb dX4_draws_1 rfl (lv_at hl 1 rfl) ?_
    obtain ⟨x1, hc1, hc⟩ := b1_some hc
    refine gc_VI (n := 1) (q0 := 0) (ci := 4) (w' := MW cy a V) hx hb hml hown hts hK hP hD hS hA hl.1 ⟨Nat.le_refl _, Nat.le_refl _⟩ (C_X4_isWell l D cy a V p1 x1 hc1) gX4_draws_X4_isWell rfl (by decide +kernel) rfl ⟨by decide, by decide⟩ Jn.same rfl rfl rfl (Nat.le_of_ble_eq_true rfl) dX4_draws_2 (fun H locs hP hD hS => ?_)
    refine lv_if_eq (tgt := 15) hx hb dX4_draws_5 (by decide) (fun c2 => ?_) (fun c2 => ?_)
    · replace hc := ite_t c2 hc
      refine lv_iconst (v := (-1)) hx hb dX4_draws_15 (by decide) ?_
      exact hend H locs _ _ _ _ (some_fst hc) (some_snd hc) rfl hP hD hS dX4_draws_16
    · replace hc := ite_f c2 hc
      refine lv_iload_n hx hb dX4_draws_8 rfl (lv_at hl 2 rfl) ?_
      obtain ⟨x3, hc3, hc⟩ := b1_some hc
      refine gc_SI (n := 1) (w' := MW cy a V) hx hb hml hown hts hK hP hD hS hA hl.1 ⟨Nat.le_refl _, Nat.le_refl _⟩ (C_X4_isDraw l D cy p2 x3 hc3) gX4_draws_X4_isDraw rfl (by decide +kernel) rfl ⟨by decide, by decide⟩ Jn.none rfl (Nat.le_of_ble_eq_true rfl) dX4_draws_9 (fun H locs hP hD hS => ?_)
      refine lv_if_ne (tgt := 17) hx hb dX4_draws_12 (by decide) (fun c4 => ?_) (fun c4 => ?_)
      · replace hc := ite_f c4 hc
        refine lv_aload_n hx hb dX4_draws_17 rfl (lv_at hl 0 rfl) ?_
        refine lv_iload_n hx hb dX4_draws_18 rfl (lv_at hl 1 rfl) ?_
        obtain ⟨x5, hc5, hc⟩ := b1_some hc
        refine gc_VI (n := 1) (q0 := 0) (ci := 4) (w' := MW cy a V) hx hb hml hown hts hK hP hD hS hA hl.1 ⟨Nat.le_refl _, Nat.le_refl _⟩ (C_X4_ableOf l D cy a V p1 x5 hc5) gX4_draws_X4_ableOf rfl (by decide +kernel) rfl ⟨by decide, by decide⟩ Jn.same rfl rfl rfl (Nat.le_of_ble_eq_true rfl) dX4_draws_19 (fun H locs hP hD hS => ?_)
        refine lv_iload_n hx hb dX4_draws_22 rfl (lv_at hl 2 rfl) ?_
        refine lv_icmp_ge (tgt := 31) hx hb dX4_draws_23 (by decide) (fun c6 => ?_) (fun c6 => ?_)
        · replace hc := ite_t c6 hc
          refine lv_aload_n hx hb dX4_draws_31 rfl (lv_at hl 0 rfl) ?_
          refine lv_iload_n hx hb dX4_draws_32 rfl (lv_at hl 1 rfl) ?_
          refine lv_iload_n hx hb dX4_draws_33 rfl (lv_at hl 2 rfl) ?_
          obtain ⟨x7, V7, hc7, hc⟩ := b2_some hc
          refine gc_VI (n := 2) (q0 := 0) (ci := 4) (w' := MW cy a V7) hx hb hml hown hts hK hP hD hS hA hl.1 ⟨Nat.le_refl _, Nat.le_refl _⟩ (C_X4_takes l D cy a V p1 p2 x7 V7 hc7) gX4_draws_X4_takes rfl (by decide +kernel) rfl ⟨by decide, by decide⟩ Jn.same rfl rfl rfl (Nat.le_of_ble_eq_true rfl) dX4_draws_34 (fun H locs hP hD hS => ?_)
          exact hend H locs _ _ _ _ (some_fst hc) (some_snd hc) rfl hP hD hS dX4_draws_37
        · replace hc := ite_f c6 hc
          refine lv_bipush (v := (-2)) hx hb dX4_draws_26 (by decide +kernel) ?_
          refine lv_goto (tgt := 37) hx hb dX4_draws_28 (by decide) ?_
          exact hend H locs _ _ _ _ (some_fst hc) (some_snd hc) rfl hP hD hS dX4_draws_37
      · replace hc := ite_t c4 hc
        refine lv_iconst (v := (-1)) hx hb dX4_draws_15 (by decide) ?_
        exact hend H locs _ _ _ _ (some_fst hc) (some_snd hc) rfl hP hD hS dX4_draws_16
  rw [hHe, hLe] at goal0
  exact goal0
set_option maxHeartbeats 4000000 in
set_option maxRecDepth 100000 in
theorem C_X4_draw (l : Launch) (D : va_G) (cy : Nat → ClassId) (a : Nat → Nat) (V : FV) (p1 : Int32) (p2 : Int32) (r : Int32) (V' : FV) (hc : f_X4_draw V p1 p2 = some (r, V')) : ConI l yX4_draw wsX4_draw 4 93 D cy (MW cy a) [.ref (a 0), .int p1, .int p2] V V' r := by
  refine bodyI (cc := cX4_draw) (maxL := 3) (ty := .int) (by decide +kernel) rfl (Nat.le_of_ble_eq_true rfl) ?_
  intro p e s m args below meth c A Q hx hb hml hts hown hK hP hD hA hS hend ls hl
  have hown : s.vm.findClass RX4 = some m.cls := hown
  have hP : va_P D vwCl (MW cy a V) s.heap := hP
  have hD : va_D A (MW cy a V) := hD
  have hl : lv_has ls 3 [(0, .ref (a 0)), (1, .int p1), (2, .int p2)] := hl
  have hend : ∀ (H : Heap) (locs : List Loc) (pc : Nat) (ls : Array Slot) (v : Int32) (V : FV), v = r → V = V' → narrow .int (.int v) = .int v → va_P D vwCl (MW cy a V) H → va_D A (MW cy a V) → va_S A s.heap H locs → decode cX4_draw pc = .ok (.ireturn, 1) → W p l e (RM 4 93) s m args below meth c H locs 0 0 Q (F0 m pc ls [.int v]) := fun H locs pc ls v V h1 h2 h3 h4 h5 h6 h7 => hend H locs pc ls v V h1 h2 h3 h4 h5 h6 h7
  obtain ⟨H, hHe⟩ : ∃ H : Heap, H = s.heap := ⟨_, rfl⟩
  obtain ⟨locs, hLe⟩ : ∃ x : List Loc, x = [] := ⟨_, rfl⟩
  have hP : va_P D vwCl (MW cy a V) H := by rw [hHe]; exact hP
  have hS : va_S A s.heap H locs := by rw [hHe, hLe]; exact hS
  have goal0 : W p l e (RM 4 93) s m args below meth c H locs 0 0 Q (F0 m 0 ls []) := by
    refine lv_aload_n hx hb dX4_draw_0 rfl (lv_at hl 0 rfl) ?_
    obtain ⟨V1, hc1, hc⟩ := b1_some hc
    refine gc_VV (n := 0) (q0 := 0) (ci := 4) (w' := MW cy a V1) hx hb hml hown hts hK hP hD hS hA hl.1 ⟨Nat.le_refl _, Nat.le_refl _⟩ (C_X4_copy l D cy a V V1 hc1) gX4_draw_X4_copy rfl (by decide +kernel) rfl ⟨by decide, by decide⟩ Jn.same rfl rfl rfl (Nat.le_of_ble_eq_true rfl) dX4_draw_1 (fun H locs hP hD hS => ?_)
    refine lv_aload_n hx hb dX4_draw_4 rfl (lv_at hl 0 rfl) ?_
    refine lv_aload_n hx hb dX4_draw_5 rfl (lv_at hl 0 rfl) ?_
    refine lv_iload_n hx hb dX4_draw_6 rfl (lv_at hl 1 rfl) ?_
    refine lv_iload_n hx hb dX4_draw_7 rfl (lv_at hl 2 rfl) ?_
    obtain ⟨x2, V2, hc2, hc⟩ := b2_some hc
    refine gc_VI (n := 2) (q0 := 0) (ci := 4) (w' := MW cy a V2) hx hb hml hown hts hK hP hD hS hA hl.1 ⟨Nat.le_refl _, Nat.le_refl _⟩ (C_X4_draws l D cy a V1 p1 p2 x2 V2 hc2) gX4_draw_X4_draws rfl (by decide +kernel) rfl ⟨by decide, by decide⟩ Jn.same rfl rfl rfl (Nat.le_of_ble_eq_true rfl) dX4_draw_8 (fun H locs hP hD hS => ?_)
    obtain ⟨x3, V3, hc3, hc⟩ := b2_some hc
    refine gc_VI (n := 1) (q0 := 0) (ci := 4) (w' := MW cy a V3) hx hb hml hown hts hK hP hD hS hA hl.1 ⟨Nat.le_refl _, Nat.le_refl _⟩ (C_X4_recorded l D cy a V2 x2 x3 V3 hc3) gX4_draw_X4_recorded rfl (by decide +kernel) rfl ⟨by decide, by decide⟩ Jn.same rfl rfl rfl (Nat.le_of_ble_eq_true rfl) dX4_draw_11 (fun H locs hP hD hS => ?_)
    exact hend H locs _ _ _ _ (some_fst hc) (some_snd hc) rfl hP hD hS dX4_draw_14
  rw [hHe, hLe] at goal0
  exact goal0
