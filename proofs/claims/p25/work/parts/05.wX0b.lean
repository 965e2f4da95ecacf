set_option maxHeartbeats 4000000 in
set_option maxRecDepth 100000 in
theorem C_X0_addWell (l : Launch) (D : va_G) (cy : Nat → ClassId) (a : Nat → Nat) (V : FV) (p1 : Int32) (p2 : Int32) (p3 : Int32) (p4 : Int32) (r : Int32) (V' : FV) (hc : f_X0_addWell V p1 p2 p3 p4 = some (r, V')) : ConI l yX0_addWell wsX0_addWell 1 21 D cy (FW cy a) [.ref (a 0), .int p1, .int p2, .int p3, .int p4] V V' r := by
  refine bodyI (cc := cX0_addWell) (maxL := 6) (ty := .int) (by decide +kernel) rfl (Nat.le_of_ble_eq_true rfl) ?_
  intro p e s m args below meth c A Q hx hb hml hts hown hK hP hD hA hS hend ls hl
  have hown : s.vm.findClass RX0 = some m.cls := hown
  have hP : va_P D vwCl (FW cy a V) s.heap := hP
  have hD : va_D A (FW cy a V) := hD
  have hl : lv_has ls 6 [(0, .ref (a 0)), (1, .int p1), (2, .int p2), (3, .int p3), (4, .int p4)] := hl
  have hend : ∀ (H : Heap) (locs : List Loc) (pc : Nat) (ls : Array Slot) (v : Int32) (V : FV), v = r → V = V' → narrow .int (.int v) = .int v → va_P D vwCl (FW cy a V) H → va_D A (FW cy a V) → va_S A s.heap H locs → decode cX0_addWell pc = .ok (.ireturn, 1) → W p l e (RM 1 21) s m args below meth c H locs 0 0 Q (F0 m pc ls [.int v]) := fun H locs pc ls v V h1 h2 h3 h4 h5 h6 h7 => hend H locs pc ls v V h1 h2 h3 h4 h5 h6 h7
  have fl_33 := hts (.fieldLink RX0 33 "NoonWells$Field" "wellCount" "I") (by decide +kernel)
  have inw_X0 := (by decide +kernel : ∀ w ∈ u_ws RX0 TX0 10, w ∈ wsX0_addWell)
  have fl_11 := hts (.fieldLink RX0 11 "NoonWells$Field" "wells" "[[I") (by decide +kernel)
  obtain ⟨H, hHe⟩ : ∃ H : Heap, H = s.heap := ⟨_, rfl⟩
  obtain ⟨locs, hLe⟩ : ∃ x : List Loc, x = [] := ⟨_, rfl⟩
  have hP : va_P D vwCl (FW cy a V) H := by rw [hHe]; exact hP
  have hS : va_S A s.heap H locs := by rw [hHe, hLe]; exact hS
  have goal0 : W p l e (RM 1 21) s m args below meth c H locs 0 0 Q (F0 m 0 ls []) := by
    refine lv_aload_n hx hb dX0_addWell_0 rfl (lv_at hl 0 rfl) ?_
    refine va_get (ci := 0) (v := .int (V 0 0)) (C := RX0) (T := TX0) (N := 10) hx hb hts inw_X0 hown hK.1 hP 0 rfl rfl 5 (by decide) fl_33 (fun _ h9 => h9) rfl dX0_addWell_1 ?_
    refine lv_if_ne (tgt := 20) hx hb dX0_addWell_4 (by decide) (fun c1 => ?_) (fun c1 => ?_)
    · replace hc := ite_f c1 hc
      refine lv_aload_n hx hb dX0_addWell_20 rfl (lv_at hl 0 rfl) ?_
      refine lv_iload_n hx hb dX0_addWell_21 rfl (lv_at hl 1 rfl) ?_
      obtain ⟨x2, hc2, hc⟩ := b1_some hc
      refine gc_VI (n := 1) (q0 := 0) (ci := 0) (w' := FW cy a V) hx hb hml hown hts hK hP hD hS hA hl.1 ⟨Nat.le_refl _, Nat.le_refl _⟩ (C_X0_isWell l D cy a V p1 x2 hc2) gX0_addWell_X0_isWell rfl (by decide +kernel) rfl ⟨by decide, by decide⟩ Jn.same rfl rfl rfl (Nat.le_of_ble_eq_true rfl) dX0_addWell_22 (fun H locs hP hD hS => ?_)
      refine lv_istore (lv' := [(5, .int x2), (0, .ref (a 0)), (1, .int p1), (2, .int p2), (3, .int p3), (4, .int p4)]) hx hb dX0_addWell_25 hl (by decide) rfl (fun ls hl => ?_)
      refine lv_iload hx hb dX0_addWell_27 (lv_at hl 0 rfl) ?_
      refine lv_if_eq (tgt := 67) hx hb dX0_addWell_29 (by decide) (fun c3 => ?_) (fun c3 => ?_)
      · replace hc := ite_t c3 hc
        refine lv_iconst (v := (-1)) hx hb dX0_addWell_67 (by decide) ?_
        exact hend H locs _ _ _ _ (some_fst hc) (some_snd hc) rfl hP hD hS dX0_addWell_68
      · replace hc := ite_f c3 hc
        refine lv_iload_n hx hb dX0_addWell_32 rfl (lv_at hl 3 rfl) ?_
        refine lv_iconst (v := 1) hx hb dX0_addWell_33 (by decide) ?_
        refine lv_icmp_lt (tgt := 67) hx hb dX0_addWell_34 (by decide) (fun c4 => ?_) (fun c4 => ?_)
        · replace hc := ite_t c4 hc
          refine lv_iconst (v := (-1)) hx hb dX0_addWell_67 (by decide) ?_
          exact hend H locs _ _ _ _ (some_fst hc) (some_snd hc) rfl hP hD hS dX0_addWell_68
        · replace hc := ite_f c4 hc
          refine lv_iload_n hx hb dX0_addWell_37 rfl (lv_at hl 3 rfl) ?_
          refine lv_sipush (v := 1000) hx hb dX0_addWell_38 (by decide +kernel) ?_
          refine lv_icmp_gt (tgt := 67) hx hb dX0_addWell_41 (by decide) (fun c5 => ?_) (fun c5 => ?_)
          · replace hc := ite_t c5 hc
            refine lv_iconst (v := (-1)) hx hb dX0_addWell_67 (by decide) ?_
            exact hend H locs _ _ _ _ (some_fst hc) (some_snd hc) rfl hP hD hS dX0_addWell_68
          · replace hc := ite_f c5 hc
            refine lv_iload_n hx hb dX0_addWell_44 rfl (lv_at hl 4 rfl) ?_
            refine lv_if_lt (tgt := 67) hx hb dX0_addWell_45 (by decide) (fun c6 => ?_) (fun c6 => ?_)
            · replace hc := ite_t c6 hc
              refine lv_iconst (v := (-1)) hx hb dX0_addWell_67 (by decide) ?_
              exact hend H locs _ _ _ _ (some_fst hc) (some_snd hc) rfl hP hD hS dX0_addWell_68
            · replace hc := ite_f c6 hc
              refine lv_iload_n hx hb dX0_addWell_48 rfl (lv_at hl 4 rfl) ?_
              refine lv_bipush (v := 100) hx hb dX0_addWell_49 (by decide +kernel) ?_
              refine lv_icmp_gt (tgt := 67) hx hb dX0_addWell_51 (by decide) (fun c7 => ?_) (fun c7 => ?_)
              · replace hc := ite_t c7 hc
                refine lv_iconst (v := (-1)) hx hb dX0_addWell_67 (by decide) ?_
                exact hend H locs _ _ _ _ (some_fst hc) (some_snd hc) rfl hP hD hS dX0_addWell_68
              · replace hc := ite_f c7 hc
                refine lv_iload hx hb dX0_addWell_54 (lv_at hl 5 rfl) ?_
                refine lv_if_lt (tgt := 67) hx hb dX0_addWell_56 (by decide) (fun c8 => ?_) (fun c8 => ?_)
                · replace hc := ite_t c8 hc
                  refine lv_iconst (v := (-1)) hx hb dX0_addWell_67 (by decide) ?_
                  exact hend H locs _ _ _ _ (some_fst hc) (some_snd hc) rfl hP hD hS dX0_addWell_68
                · replace hc := ite_f c8 hc
                  refine lv_iload hx hb dX0_addWell_59 (lv_at hl 5 rfl) ?_
                  refine lv_sipush (v := 1000) hx hb dX0_addWell_61 (by decide +kernel) ?_
                  refine lv_icmp_le (tgt := 69) hx hb dX0_addWell_64 (by decide) (fun c9 => ?_) (fun c9 => ?_)
                  · replace hc := ite_t c9 hc
                    refine lv_aload_n hx hb dX0_addWell_69 rfl (lv_at hl 1 rfl) ?_
                    refine va_get (ci := 0) (v := .int (V 0 0)) (C := RX0) (T := TX0) (N := 10) hx hb hts inw_X0 hown hK.1 hP 0 rfl rfl 5 (by decide) fl_33 (fun _ h9 => h9) rfl dX0_addWell_70 ?_
                    refine lv_bipush (v := 12) hx hb dX0_addWell_73 (by decide +kernel) ?_
                    refine lv_icmp_lt (tgt := 81) hx hb dX0_addWell_75 (by decide) (fun c10 => ?_) (fun c10 => ?_)
                    · replace hc := ite_t c10 hc
                      refine lv_aload_n hx hb dX0_addWell_81 rfl (lv_at hl 1 rfl) ?_
                      refine va_get (ci := 0) (v := .ref (a 1)) (C := RX0) (T := TX0) (N := 10) hx hb hts inw_X0 hown hK.1 hP 0 rfl rfl 0 (by decide) fl_11 (fun _ h9 => h9) rfl dX0_addWell_82 ?_
                      refine lv_iconst (v := 0) hx hb dX0_addWell_85 (by decide) ?_
                      refine g_aald (v := a 6) hx hb hK hP 1 rfl (vp_lit (by decide)) rfl dX0_addWell_86 ?_
                      refine lv_aload_n hx hb dX0_addWell_87 rfl (lv_at hl 1 rfl) ?_
                      refine va_get (ci := 0) (v := .int (V 0 0)) (C := RX0) (T := TX0) (N := 10) hx hb hts inw_X0 hown hK.1 hP 0 rfl rfl 5 (by decide) fl_33 (fun _ h9 => h9) rfl dX0_addWell_88 ?_
                      refine lv_iload_n hx hb dX0_addWell_91 rfl (lv_at hl 2 rfl) ?_
                      obtain ⟨V11, hi11, eV11, hc⟩ := wr_some hc
                      refine g_iast (w' := FW cy a V11) hx hb hK hP hD hS 6 rfl hi11 (by rw [← eV11]; rfl) dX0_addWell_92 (fun H locs hP hD hS => ?_)
                      refine lv_aload_n hx hb dX0_addWell_93 rfl (lv_at hl 1 rfl) ?_
                      refine va_get (ci := 0) (v := .ref (a 1)) (C := RX0) (T := TX0) (N := 10) hx hb hts inw_X0 hown hK.1 hP 0 rfl rfl 0 (by decide) fl_11 (fun _ h9 => h9) rfl dX0_addWell_94 ?_
                      refine lv_iconst (v := 1) hx hb dX0_addWell_97 (by decide) ?_
                      refine g_aald (v := a 7) hx hb hK hP 1 rfl (vp_lit (by decide)) rfl dX0_addWell_98 ?_
                      refine lv_aload_n hx hb dX0_addWell_99 rfl (lv_at hl 1 rfl) ?_
                      refine va_get (ci := 0) (v := .int (V11 0 0)) (C := RX0) (T := TX0) (N := 10) hx hb hts inw_X0 hown hK.1 hP 0 rfl rfl 5 (by decide) fl_33 (fun _ h9 => h9) rfl dX0_addWell_100 ?_
                      refine lv_iload_n hx hb dX0_addWell_103 rfl (lv_at hl 3 rfl) ?_
                      obtain ⟨V12, hi12, eV12, hc⟩ := wr_some hc
                      refine g_iast (w' := FW cy a V12) hx hb hK hP hD hS 7 rfl hi12 (by rw [← eV12]; rfl) dX0_addWell_104 (fun H locs hP hD hS => ?_)
                      refine lv_aload_n hx hb dX0_addWell_105 rfl (lv_at hl 1 rfl) ?_
                      refine va_get (ci := 0) (v := .ref (a 1)) (C := RX0) (T := TX0) (N := 10) hx hb hts inw_X0 hown hK.1 hP 0 rfl rfl 0 (by decide) fl_11 (fun _ h9 => h9) rfl dX0_addWell_106 ?_
                      refine lv_iconst (v := 2) hx hb dX0_addWell_109 (by decide) ?_
                      refine g_aald (v := a 8) hx hb hK hP 1 rfl (vp_lit (by decide)) rfl dX0_addWell_110 ?_
                      refine lv_aload_n hx hb dX0_addWell_111 rfl (lv_at hl 1 rfl) ?_
                      refine va_get (ci := 0) (v := .int (V12 0 0)) (C := RX0) (T := TX0) (N := 10) hx hb hts inw_X0 hown hK.1 hP 0 rfl rfl 5 (by decide) fl_33 (fun _ h9 => h9) rfl dX0_addWell_112 ?_
                      refine lv_iload_n hx hb dX0_addWell_115 rfl (lv_at hl 4 rfl) ?_
                      obtain ⟨V13, hi13, eV13, hc⟩ := wr_some hc
                      refine g_iast (w' := FW cy a V13) hx hb hK hP hD hS 8 rfl hi13 (by rw [← eV13]; rfl) dX0_addWell_116 (fun H locs hP hD hS => ?_)
                      refine lv_aload_n hx hb dX0_addWell_117 rfl (lv_at hl 1 rfl) ?_
                      refine va_get (ci := 0) (v := .ref (a 1)) (C := RX0) (T := TX0) (N := 10) hx hb hts inw_X0 hown hK.1 hP 0 rfl rfl 0 (by decide) fl_11 (fun _ h9 => h9) rfl dX0_addWell_118 ?_
                      refine lv_iconst (v := 3) hx hb dX0_addWell_121 (by decide) ?_
                      refine g_aald (v := a 9) hx hb hK hP 1 rfl (vp_lit (by decide)) rfl dX0_addWell_122 ?_
                      refine lv_aload_n hx hb dX0_addWell_123 rfl (lv_at hl 1 rfl) ?_
                      refine va_get (ci := 0) (v := .int (V13 0 0)) (C := RX0) (T := TX0) (N := 10) hx hb hts inw_X0 hown hK.1 hP 0 rfl rfl 5 (by decide) fl_33 (fun _ h9 => h9) rfl dX0_addWell_124 ?_
                      refine lv_iload hx hb dX0_addWell_127 (lv_at hl 5 rfl) ?_
                      obtain ⟨V14, hi14, eV14, hc⟩ := wr_some hc
                      refine g_iast (w' := FW cy a V14) hx hb hK hP hD hS 9 rfl hi14 (by rw [← eV14]; rfl) dX0_addWell_129 (fun H locs hP hD hS => ?_)
                      refine lv_aload_n hx hb dX0_addWell_130 rfl (lv_at hl 1 rfl) ?_
                      refine lv_iload_n hx hb dX0_addWell_131 rfl (lv_at hl 2 rfl) ?_
                      obtain ⟨x15, hc15, hc⟩ := b1_some hc
                      refine gc_VI (n := 1) (q0 := 0) (ci := 0) (w' := FW cy a V14) hx hb hml hown hts hK hP hD hS hA hl.1 ⟨Nat.le_refl _, Nat.le_refl _⟩ (C_X0_isWell l D cy a V14 p1 x15 hc15) gX0_addWell_X0_isWell rfl (by decide +kernel) rfl ⟨by decide, by decide⟩ Jn.same rfl rfl rfl (Nat.le_of_ble_eq_true rfl) dX0_addWell_132 (fun H locs hP hD hS => ?_)
                      refine lv_if_eq (tgt := 151) hx hb dX0_addWell_135 (by decide) (fun c16 => ?_) (fun c16 => ?_)
                      · replace hc := ite_t c16 hc
                        refine lv_aload_n hx hb dX0_addWell_151 rfl (lv_at hl 1 rfl) ?_
                        refine lv_dup hx hb dX0_addWell_152 rfl ?_
                        refine va_get (ci := 0) (v := .int (V14 0 0)) (C := RX0) (T := TX0) (N := 10) hx hb hts inw_X0 hown hK.1 hP 0 rfl rfl 5 (by decide) fl_33 (fun _ h9 => h9) rfl dX0_addWell_153 ?_
                        refine lv_dup_x1 hx hb dX0_addWell_156 rfl rfl ?_
                        refine lv_iconst (v := 1) hx hb dX0_addWell_157 (by decide) ?_
                        refine lv_iadd hx hb dX0_addWell_158 ?_
                        obtain ⟨V17, eV17, hc⟩ := lt1_some hc
                        refine g_put (ci := 0) (C := RX0) (T := TX0) (N := 10) (w' := FW cy a V17) hx hb hts inw_X0 tyX0 tyX0_ok nmX0 hown hK hP hD hS 0 rfl rfl 5 (by decide) fl_33 (fun _ h9 => h9) rfl (by decide +kernel) (Nat.le_of_ble_eq_true rfl) (by rw [← eV17]; rfl) dX0_addWell_159 (fun H locs hP hD hS => ?_)
                        exact hend H locs _ _ _ _ (some_fst hc) (some_snd hc) rfl hP hD hS dX0_addWell_162
                      · replace hc := ite_f c16 hc
                        refine lv_aload_n hx hb dX0_addWell_138 rfl (lv_at hl 1 rfl) ?_
                        refine va_get (ci := 0) (v := .ref (a 1)) (C := RX0) (T := TX0) (N := 10) hx hb hts inw_X0 hown hK.1 hP 0 rfl rfl 0 (by decide) fl_11 (fun _ h9 => h9) rfl dX0_addWell_139 ?_
                        refine lv_bipush (v := 12) hx hb dX0_addWell_142 (by decide +kernel) ?_
                        refine g_aald (v := a 18) hx hb hK hP 1 rfl (vp_lit (by decide)) rfl dX0_addWell_144 ?_
                        refine lv_iload_n hx hb dX0_addWell_145 rfl (lv_at hl 2 rfl) ?_
                        refine lv_dup2_11 hx hb dX0_addWell_146 rfl rfl ?_
                        obtain ⟨x18, hi18, hv18, hc⟩ := rd_some hc
                        refine g_iald (x := x18) hx hb hK hP 18 rfl hi18 hv18 dX0_addWell_147 ?_
                        refine lv_iconst (v := 1) hx hb dX0_addWell_148 (by decide) ?_
                        refine lv_iadd hx hb dX0_addWell_149 ?_
                        obtain ⟨V19, hi19, eV19, hc⟩ := wr_some hc
                        refine g_iast (w' := FW cy a V19) hx hb hK hP hD hS 18 rfl hi19 (by rw [← eV19]; rfl) dX0_addWell_150 (fun H locs hP hD hS => ?_)
                        refine lv_aload_n hx hb dX0_addWell_151 rfl (lv_at hl 1 rfl) ?_
                        refine lv_dup hx hb dX0_addWell_152 rfl ?_
                        refine va_get (ci := 0) (v := .int (V19 0 0)) (C := RX0) (T := TX0) (N := 10) hx hb hts inw_X0 hown hK.1 hP 0 rfl rfl 5 (by decide) fl_33 (fun _ h9 => h9) rfl dX0_addWell_153 ?_
                        refine lv_dup_x1 hx hb dX0_addWell_156 rfl rfl ?_
                        refine lv_iconst (v := 1) hx hb dX0_addWell_157 (by decide) ?_
                        refine lv_iadd hx hb dX0_addWell_158 ?_
                        obtain ⟨V20, eV20, hc⟩ := lt1_some hc
                        refine g_put (ci := 0) (C := RX0) (T := TX0) (N := 10) (w' := FW cy a V20) hx hb hts inw_X0 tyX0 tyX0_ok nmX0 hown hK hP hD hS 0 rfl rfl 5 (by decide) fl_33 (fun _ h9 => h9) rfl (by decide +kernel) (Nat.le_of_ble_eq_true rfl) (by rw [← eV20]; rfl) dX0_addWell_159 (fun H locs hP hD hS => ?_)
                        exact hend H locs _ _ _ _ (some_fst hc) (some_snd hc) rfl hP hD hS dX0_addWell_162
                    · replace hc := ite_f c10 hc
                      refine lv_bipush (v := (-3)) hx hb dX0_addWell_78 (by decide +kernel) ?_
                      exact hend H locs _ _ _ _ (some_fst hc) (some_snd hc) rfl hP hD hS dX0_addWell_80
                  · replace hc := ite_f c9 hc
                    refine lv_iconst (v := (-1)) hx hb dX0_addWell_67 (by decide) ?_
                    exact hend H locs _ _ _ _ (some_fst hc) (some_snd hc) rfl hP hD hS dX0_addWell_68
    · replace hc := ite_t c1 hc
      refine lv_iload_n hx hb dX0_addWell_7 rfl (lv_at hl 1 rfl) ?_
      refine lv_iconst (v := (-1)) hx hb dX0_addWell_8 (by decide) ?_
      refine lv_icmp_ne (tgt := 16) hx hb dX0_addWell_9 (by decide) (fun c21 => ?_) (fun c21 => ?_)
      · replace hc := ite_f c21 hc
        refine lv_iconst (v := 0) hx hb dX0_addWell_16 (by decide) ?_
        refine lv_goto (tgt := 25) hx hb dX0_addWell_17 (by decide) ?_
        refine lv_istore (lv' := [(5, .int 0), (0, .ref (a 0)), (1, .int p1), (2, .int p2), (3, .int p3), (4, .int p4)]) hx hb dX0_addWell_25 hl (by decide) rfl (fun ls hl => ?_)
        refine lv_iload hx hb dX0_addWell_27 (lv_at hl 0 rfl) ?_
        refine lv_if_eq (tgt := 67) hx hb dX0_addWell_29 (by decide) (fun _ => ?_) (fun c9 => absurd c9 (by decide))
        refine lv_iconst (v := (-1)) hx hb dX0_addWell_67 (by decide) ?_
        exact hend H locs _ _ _ _ (some_fst hc) (some_snd hc) rfl hP hD hS dX0_addWell_68
      · replace hc := ite_t c21 hc
        refine lv_iconst (v := 1) hx hb dX0_addWell_12 (by decide) ?_
        refine lv_goto (tgt := 25) hx hb dX0_addWell_13 (by decide) ?_
        refine lv_istore (lv' := [(5, .int 1), (0, .ref (a 0)), (1, .int p1), (2, .int p2), (3, .int p3), (4, .int p4)]) hx hb dX0_addWell_25 hl (by decide) rfl (fun ls hl => ?_)
        refine lv_iload hx hb dX0_addWell_27 (lv_at hl 0 rfl) ?_
        refine lv_if_eq (tgt := 67) hx hb dX0_addWell_29 (by decide) (fun c9 => absurd c9 (by decide)) (fun _ => ?_)
        refine lv_iload_n hx hb dX0_addWell_32 rfl (lv_at hl 3 rfl) ?_
        refine lv_iconst (v := 1) hx hb dX0_addWell_33 (by decide) ?_
        refine lv_icmp_lt (tgt := 67) hx hb dX0_addWell_34 (by decide) (fun c22 => ?_) (fun c22 => ?_)
        · replace hc := ite_t c22 hc
          refine lv_iconst (v := (-1)) hx hb dX0_addWell_67 (by decide) ?_
          exact hend H locs _ _ _ _ (some_fst hc) (some_snd hc) rfl hP hD hS dX0_addWell_68
        · replace hc := ite_f c22 hc
          refine lv_iload_n hx hb dX0_addWell_37 rfl (lv_at hl 3 rfl) ?_
          refine lv_sipush (v := 1000) hx hb dX0_addWell_38 (by decide +kernel) ?_
          refine lv_icmp_gt (tgt := 67) hx hb dX0_addWell_41 (by decide) (fun c23 => ?_) (fun c23 => ?_)
          · replace hc := ite_t c23 hc
            refine lv_iconst (v := (-1)) hx hb dX0_addWell_67 (by decide) ?_
            exact hend H locs _ _ _ _ (some_fst hc) (some_snd hc) rfl hP hD hS dX0_addWell_68
          · replace hc := ite_f c23 hc
            refine lv_iload_n hx hb dX0_addWell_44 rfl (lv_at hl 4 rfl) ?_
            refine lv_if_lt (tgt := 67) hx hb dX0_addWell_45 (by decide) (fun c24 => ?_) (fun c24 => ?_)
            · replace hc := ite_t c24 hc
              refine lv_iconst (v := (-1)) hx hb dX0_addWell_67 (by decide) ?_
              exact hend H locs _ _ _ _ (some_fst hc) (some_snd hc) rfl hP hD hS dX0_addWell_68
            · replace hc := ite_f c24 hc
              refine lv_iload_n hx hb dX0_addWell_48 rfl (lv_at hl 4 rfl) ?_
              refine lv_bipush (v := 100) hx hb dX0_addWell_49 (by decide +kernel) ?_
              refine lv_icmp_gt (tgt := 67) hx hb dX0_addWell_51 (by decide) (fun c25 => ?_) (fun c25 => ?_)
              · replace hc := ite_t c25 hc
                refine lv_iconst (v := (-1)) hx hb dX0_addWell_67 (by decide) ?_
                exact hend H locs _ _ _ _ (some_fst hc) (some_snd hc) rfl hP hD hS dX0_addWell_68
              · replace hc := ite_f c25 hc
                refine lv_iload hx hb dX0_addWell_54 (lv_at hl 5 rfl) ?_
                refine lv_if_lt (tgt := 67) hx hb dX0_addWell_56 (by decide) (fun c26 => ?_) (fun c26 => ?_)
                · replace hc := ite_t c26 hc
                  refine lv_iconst (v := (-1)) hx hb dX0_addWell_67 (by decide) ?_
                  exact hend H locs _ _ _ _ (some_fst hc) (some_snd hc) rfl hP hD hS dX0_addWell_68
                · replace hc := ite_f c26 hc
                  refine lv_iload hx hb dX0_addWell_59 (lv_at hl 5 rfl) ?_
                  refine lv_sipush (v := 1000) hx hb dX0_addWell_61 (by decide +kernel) ?_
                  refine lv_icmp_le (tgt := 69) hx hb dX0_addWell_64 (by decide) (fun c27 => ?_) (fun c27 => ?_)
                  · replace hc := ite_t c27 hc
                    refine lv_aload_n hx hb dX0_addWell_69 rfl (lv_at hl 1 rfl) ?_
                    refine va_get (ci := 0) (v := .int (V 0 0)) (C := RX0) (T := TX0) (N := 10) hx hb hts inw_X0 hown hK.1 hP 0 rfl rfl 5 (by decide) fl_33 (fun _ h9 => h9) rfl dX0_addWell_70 ?_
                    refine lv_bipush (v := 12) hx hb dX0_addWell_73 (by decide +kernel) ?_
                    refine lv_icmp_lt (tgt := 81) hx hb dX0_addWell_75 (by decide) (fun c28 => ?_) (fun c28 => ?_)
                    · replace hc := ite_t c28 hc
                      refine lv_aload_n hx hb dX0_addWell_81 rfl (lv_at hl 1 rfl) ?_
                      refine va_get (ci := 0) (v := .ref (a 1)) (C := RX0) (T := TX0) (N := 10) hx hb hts inw_X0 hown hK.1 hP 0 rfl rfl 0 (by decide) fl_11 (fun _ h9 => h9) rfl dX0_addWell_82 ?_
                      refine lv_iconst (v := 0) hx hb dX0_addWell_85 (by decide) ?_
                      refine g_aald (v := a 6) hx hb hK hP 1 rfl (vp_lit (by decide)) rfl dX0_addWell_86 ?_
                      refine lv_aload_n hx hb dX0_addWell_87 rfl (lv_at hl 1 rfl) ?_
                      refine va_get (ci := 0) (v := .int (V 0 0)) (C := RX0) (T := TX0) (N := 10) hx hb hts inw_X0 hown hK.1 hP 0 rfl rfl 5 (by decide) fl_33 (fun _ h9 => h9) rfl dX0_addWell_88 ?_
                      refine lv_iload_n hx hb dX0_addWell_91 rfl (lv_at hl 2 rfl) ?_
                      obtain ⟨V29, hi29, eV29, hc⟩ := wr_some hc
                      refine g_iast (w' := FW cy a V29) hx hb hK hP hD hS 6 rfl hi29 (by rw [← eV29]; rfl) dX0_addWell_92 (fun H locs hP hD hS => ?_)
                      refine lv_aload_n hx hb dX0_addWell_93 rfl (lv_at hl 1 rfl) ?_
                      refine va_get (ci := 0) (v := .ref (a 1)) (C := RX0) (T := TX0) (N := 10) hx hb hts inw_X0 hown hK.1 hP 0 rfl rfl 0 (by decide) fl_11 (fun _ h9 => h9) rfl dX0_addWell_94 ?_
                      refine lv_iconst (v := 1) hx hb dX0_addWell_97 (by decide) ?_
                      refine g_aald (v := a 7) hx hb hK hP 1 rfl (vp_lit (by decide)) rfl dX0_addWell_98 ?_
                      refine lv_aload_n hx hb dX0_addWell_99 rfl (lv_at hl 1 rfl) ?_
                      refine va_get (ci := 0) (v := .int (V29 0 0)) (C := RX0) (T := TX0) (N := 10) hx hb hts inw_X0 hown hK.1 hP 0 rfl rfl 5 (by decide) fl_33 (fun _ h9 => h9) rfl dX0_addWell_100 ?_
                      refine lv_iload_n hx hb dX0_addWell_103 rfl (lv_at hl 3 rfl) ?_
                      obtain ⟨V30, hi30, eV30, hc⟩ := wr_some hc
                      refine g_iast (w' := FW cy a V30) hx hb hK hP hD hS 7 rfl hi30 (by rw [← eV30]; rfl) dX0_addWell_104 (fun H locs hP hD hS => ?_)
                      refine lv_aload_n hx hb dX0_addWell_105 rfl (lv_at hl 1 rfl) ?_
                      refine va_get (ci := 0) (v := .ref (a 1)) (C := RX0) (T := TX0) (N := 10) hx hb hts inw_X0 hown hK.1 hP 0 rfl rfl 0 (by decide) fl_11 (fun _ h9 => h9) rfl dX0_addWell_106 ?_
                      refine lv_iconst (v := 2) hx hb dX0_addWell_109 (by decide) ?_
                      refine g_aald (v := a 8) hx hb hK hP 1 rfl (vp_lit (by decide)) rfl dX0_addWell_110 ?_
                      refine lv_aload_n hx hb dX0_addWell_111 rfl (lv_at hl 1 rfl) ?_
                      refine va_get (ci := 0) (v := .int (V30 0 0)) (C := RX0) (T := TX0) (N := 10) hx hb hts inw_X0 hown hK.1 hP 0 rfl rfl 5 (by decide) fl_33 (fun _ h9 => h9) rfl dX0_addWell_112 ?_
                      refine lv_iload_n hx hb dX0_addWell_115 rfl (lv_at hl 4 rfl) ?_
                      obtain ⟨V31, hi31, eV31, hc⟩ := wr_some hc
                      refine g_iast (w' := FW cy a V31) hx hb hK hP hD hS 8 rfl hi31 (by rw [← eV31]; rfl) dX0_addWell_116 (fun H locs hP hD hS => ?_)
                      refine lv_aload_n hx hb dX0_addWell_117 rfl (lv_at hl 1 rfl) ?_
                      refine va_get (ci := 0) (v := .ref (a 1)) (C := RX0) (T := TX0) (N := 10) hx hb hts inw_X0 hown hK.1 hP 0 rfl rfl 0 (by decide) fl_11 (fun _ h9 => h9) rfl dX0_addWell_118 ?_
                      refine lv_iconst (v := 3) hx hb dX0_addWell_121 (by decide) ?_
                      refine g_aald (v := a 9) hx hb hK hP 1 rfl (vp_lit (by decide)) rfl dX0_addWell_122 ?_
                      refine lv_aload_n hx hb dX0_addWell_123 rfl (lv_at hl 1 rfl) ?_
                      refine va_get (ci := 0) (v := .int (V31 0 0)) (C := RX0) (T := TX0) (N := 10) hx hb hts inw_X0 hown hK.1 hP 0 rfl rfl 5 (by decide) fl_33 (fun _ h9 => h9) rfl dX0_addWell_124 ?_
                      refine lv_iload hx hb dX0_addWell_127 (lv_at hl 5 rfl) ?_
                      obtain ⟨V32, hi32, eV32, hc⟩ := wr_some hc
                      refine g_iast (w' := FW cy a V32) hx hb hK hP hD hS 9 rfl hi32 (by rw [← eV32]; rfl) dX0_addWell_129 (fun H locs hP hD hS => ?_)
                      refine lv_aload_n hx hb dX0_addWell_130 rfl (lv_at hl 1 rfl) ?_
                      refine lv_iload_n hx hb dX0_addWell_131 rfl (lv_at hl 2 rfl) ?_
                      obtain ⟨x33, hc33, hc⟩ := b1_some hc
                      refine gc_VI (n := 1) (q0 := 0) (ci := 0) (w' := FW cy a V32) hx hb hml hown hts hK hP hD hS hA hl.1 ⟨Nat.le_refl _, Nat.le_refl _⟩ (C_X0_isWell l D cy a V32 p1 x33 hc33) gX0_addWell_X0_isWell rfl (by decide +kernel) rfl ⟨by decide, by decide⟩ Jn.same rfl rfl rfl (Nat.le_of_ble_eq_true rfl) dX0_addWell_132 (fun H locs hP hD hS => ?_)
                      refine lv_if_eq (tgt := 151) hx hb dX0_addWell_135 (by decide) (fun c34 => ?_) (fun c34 => ?_)
                      · replace hc := ite_t c34 hc
                        refine lv_aload_n hx hb dX0_addWell_151 rfl (lv_at hl 1 rfl) ?_
                        refine lv_dup hx hb dX0_addWell_152 rfl ?_
                        refine va_get (ci := 0) (v := .int (V32 0 0)) (C := RX0) (T := TX0) (N := 10) hx hb hts inw_X0 hown hK.1 hP 0 rfl rfl 5 (by decide) fl_33 (fun _ h9 => h9) rfl dX0_addWell_153 ?_
                        refine lv_dup_x1 hx hb dX0_addWell_156 rfl rfl ?_
                        refine lv_iconst (v := 1) hx hb dX0_addWell_157 (by decide) ?_
                        refine lv_iadd hx hb dX0_addWell_158 ?_
                        obtain ⟨V35, eV35, hc⟩ := lt1_some hc
                        refine g_put (ci := 0) (C := RX0) (T := TX0) (N := 10) (w' := FW cy a V35) hx hb hts inw_X0 tyX0 tyX0_ok nmX0 hown hK hP hD hS 0 rfl rfl 5 (by decide) fl_33 (fun _ h9 => h9) rfl (by decide +kernel) (Nat.le_of_ble_eq_true rfl) (by rw [← eV35]; rfl) dX0_addWell_159 (fun H locs hP hD hS => ?_)
                        exact hend H locs _ _ _ _ (some_fst hc) (some_snd hc) rfl hP hD hS dX0_addWell_162
                      · replace hc := ite_f c34 hc
                        refine lv_aload_n hx hb dX0_addWell_138 rfl (lv_at hl 1 rfl) ?_
                        refine va_get (ci := 0) (v := .ref (a 1)) (C := RX0) (T := TX0) (N := 10) hx hb hts inw_X0 hown hK.1 hP 0 rfl rfl 0 (by decide) fl_11 (fun _ h9 => h9) rfl dX0_addWell_139 ?_
                        refine lv_bipush (v := 12) hx hb dX0_addWell_142 (by decide +kernel) ?_
                        refine g_aald (v := a 18) hx hb hK hP 1 rfl (vp_lit (by decide)) rfl dX0_addWell_144 ?_
                        refine lv_iload_n hx hb dX0_addWell_145 rfl (lv_at hl 2 rfl) ?_
                        refine lv_dup2_11 hx hb dX0_addWell_146 rfl rfl ?_
                        obtain ⟨x36, hi36, hv36, hc⟩ := rd_some hc
                        refine g_iald (x := x36) hx hb hK hP 18 rfl hi36 hv36 dX0_addWell_147 ?_
                        refine lv_iconst (v := 1) hx hb dX0_addWell_148 (by decide) ?_
                        refine lv_iadd hx hb dX0_addWell_149 ?_
                        obtain ⟨V37, hi37, eV37, hc⟩ := wr_some hc
                        refine g_iast (w' := FW cy a V37) hx hb hK hP hD hS 18 rfl hi37 (by rw [← eV37]; rfl) dX0_addWell_150 (fun H locs hP hD hS => ?_)
                        refine lv_aload_n hx hb dX0_addWell_151 rfl (lv_at hl 1 rfl) ?_
                        refine lv_dup hx hb dX0_addWell_152 rfl ?_
                        refine va_get (ci := 0) (v := .int (V37 0 0)) (C := RX0) (T := TX0) (N := 10) hx hb hts inw_X0 hown hK.1 hP 0 rfl rfl 5 (by decide) fl_33 (fun _ h9 => h9) rfl dX0_addWell_153 ?_
                        refine lv_dup_x1 hx hb dX0_addWell_156 rfl rfl ?_
                        refine lv_iconst (v := 1) hx hb dX0_addWell_157 (by decide) ?_
                        refine lv_iadd hx hb dX0_addWell_158 ?_
                        obtain ⟨V38, eV38, hc⟩ := lt1_some hc
                        refine g_put (ci := 0) (C := RX0) (T := TX0) (N := 10) (w' := FW cy a V38) hx hb hts inw_X0 tyX0 tyX0_ok nmX0 hown hK hP hD hS 0 rfl rfl 5 (by decide) fl_33 (fun _ h9 => h9) rfl (by decide +kernel) (Nat.le_of_ble_eq_true rfl) (by rw [← eV38]; rfl) dX0_addWell_159 (fun H locs hP hD hS => ?_)
                        exact hend H locs _ _ _ _ (some_fst hc) (some_snd hc) rfl hP hD hS dX0_addWell_162
                    · replace hc := ite_f c28 hc
                      refine lv_bipush (v := (-3)) hx hb dX0_addWell_78 (by decide +kernel) ?_
                      exact hend H locs _ _ _ _ (some_fst hc) (some_snd hc) rfl hP hD hS dX0_addWell_80
                  · replace hc := ite_f c27 hc
                    refine lv_iconst (v := (-1)) hx hb dX0_addWell_67 (by decide) ?_
                    exact hend H locs _ _ _ _ (some_fst hc) (some_snd hc) rfl hP hD hS dX0_addWell_68
  rw [hHe, hLe] at goal0
  exact goal0
set_option maxHeartbeats 4000000 in
set_option maxRecDepth 100000 in
theorem C_X0_addDrought (l : Launch) (D : va_G) (cy : Nat → ClassId) (a : Nat → Nat) (V : FV) (p1 : Int32) (p2 : Int32) (p3 : Int32) (r : Int32) (V' : FV) (hc : f_X0_addDrought V p1 p2 p3 = some (r, V')) : ConI l yX0_addDrought wsX0_addDrought 1 21 D cy (FW cy a) [.ref (a 0), .int p1, .int p2, .int p3] V V' r := by
  refine bodyI (cc := cX0_addDrought) (maxL := 4) (ty := .int) (by decide +kernel) rfl (Nat.le_of_ble_eq_true rfl) ?_
  intro p e s m args below meth c A Q hx hb hml hts hown hK hP hD hA hS hend ls hl
  have hown : s.vm.findClass RX0 = some m.cls := hown
  have hP : va_P D vwCl (FW cy a V) s.heap := hP
  have hD : va_D A (FW cy a V) := hD
  have hl : lv_has ls 4 [(0, .ref (a 0)), (1, .int p1), (2, .int p2), (3, .int p3)] := hl
  have hend : ∀ (H : Heap) (locs : List Loc) (pc : Nat) (ls : Array Slot) (v : Int32) (V : FV), v = r → V = V' → narrow .int (.int v) = .int v → va_P D vwCl (FW cy a V) H → va_D A (FW cy a V) → va_S A s.heap H locs → decode cX0_addDrought pc = .ok (.ireturn, 1) → W p l e (RM 1 21) s m args below meth c H locs 0 0 Q (F0 m pc ls [.int v]) := fun H locs pc ls v V h1 h2 h3 h4 h5 h6 h7 => hend H locs pc ls v V h1 h2 h3 h4 h5 h6 h7
  have fl_43 := hts (.fieldLink RX0 43 "NoonWells$Field" "time" "I") (by decide +kernel)
  have inw_X0 := (by decide +kernel : ∀ w ∈ u_ws RX0 TX0 10, w ∈ wsX0_addDrought)
  have fl_37 := hts (.fieldLink RX0 37 "NoonWells$Field" "droughtCount" "I") (by decide +kernel)
  have fl_16 := hts (.fieldLink RX0 16 "NoonWells$Field" "droughts" "[[I") (by decide +kernel)
  obtain ⟨H, hHe⟩ : ∃ H : Heap, H = s.heap := ⟨_, rfl⟩
  obtain ⟨locs, hLe⟩ : ∃ x : List Loc, x = [] := ⟨_, rfl⟩
  have hP : va_P D vwCl (FW cy a V) H := by rw [hHe]; exact hP
  have hS : va_S A s.heap H locs := by rw [hHe, hLe]; exact hS
  have goal0 : W p l e (RM 1 21) s m args below meth c H locs 0 0 Q (F0 m 0 ls []) := by
    refine lv_aload_n hx hb dX0_addDrought_0 rfl (lv_at hl 0 rfl) ?_
    refine lv_iload_n hx hb dX0_addDrought_1 rfl (lv_at hl 1 rfl) ?_
    obtain ⟨x1, hc1, hc⟩ := b1_some hc
    refine gc_VI (n := 1) (q0 := 0) (ci := 0) (w' := FW cy a V) hx hb hml hown hts hK hP hD hS hA hl.1 ⟨Nat.le_refl _, Nat.le_refl _⟩ (C_X0_isWell l D cy a V p1 x1 hc1) gX0_addDrought_X0_isWell rfl (by decide +kernel) rfl ⟨by decide, by decide⟩ Jn.same rfl rfl rfl (Nat.le_of_ble_eq_true rfl) dX0_addDrought_2 (fun H locs hP hD hS => ?_)
    refine lv_if_eq (tgt := 33) hx hb dX0_addDrought_5 (by decide) (fun c2 => ?_) (fun c2 => ?_)
    · replace hc := ite_t c2 hc
      refine lv_iconst (v := (-1)) hx hb dX0_addDrought_33 (by decide) ?_
      exact hend H locs _ _ _ _ (some_fst hc) (some_snd hc) rfl hP hD hS dX0_addDrought_34
    · replace hc := ite_f c2 hc
      refine lv_iload_n hx hb dX0_addDrought_8 rfl (lv_at hl 2 rfl) ?_
      refine lv_aload_n hx hb dX0_addDrought_9 rfl (lv_at hl 0 rfl) ?_
      refine va_get (ci := 0) (v := .int (V 0 3)) (C := RX0) (T := TX0) (N := 10) hx hb hts inw_X0 hown hK.1 hP 0 rfl rfl 8 (by decide) fl_43 (fun _ h9 => h9) rfl dX0_addDrought_10 ?_
      refine lv_icmp_le (tgt := 33) hx hb dX0_addDrought_13 (by decide) (fun c3 => ?_) (fun c3 => ?_)
      · replace hc := ite_t c3 hc
        refine lv_iconst (v := (-1)) hx hb dX0_addDrought_33 (by decide) ?_
        exact hend H locs _ _ _ _ (some_fst hc) (some_snd hc) rfl hP hD hS dX0_addDrought_34
      · replace hc := ite_f c3 hc
        refine lv_iload_n hx hb dX0_addDrought_16 rfl (lv_at hl 2 rfl) ?_
        refine lv_ldc (v := 60000) hx hb hown (hts (.constant RX0 65 60000) (by decide +kernel)) dX0_addDrought_17 ?_
        refine lv_icmp_gt (tgt := 33) hx hb dX0_addDrought_19 (by decide) (fun c4 => ?_) (fun c4 => ?_)
        · replace hc := ite_t c4 hc
          refine lv_iconst (v := (-1)) hx hb dX0_addDrought_33 (by decide) ?_
          exact hend H locs _ _ _ _ (some_fst hc) (some_snd hc) rfl hP hD hS dX0_addDrought_34
        · replace hc := ite_f c4 hc
          refine lv_iload_n hx hb dX0_addDrought_22 rfl (lv_at hl 3 rfl) ?_
          refine lv_iload_n hx hb dX0_addDrought_23 rfl (lv_at hl 2 rfl) ?_
          refine lv_icmp_lt (tgt := 33) hx hb dX0_addDrought_24 (by decide) (fun c5 => ?_) (fun c5 => ?_)
          · replace hc := ite_t c5 hc
            refine lv_iconst (v := (-1)) hx hb dX0_addDrought_33 (by decide) ?_
            exact hend H locs _ _ _ _ (some_fst hc) (some_snd hc) rfl hP hD hS dX0_addDrought_34
          · replace hc := ite_f c5 hc
            refine lv_iload_n hx hb dX0_addDrought_27 rfl (lv_at hl 3 rfl) ?_
            refine lv_ldc (v := 60000) hx hb hown (hts (.constant RX0 65 60000) (by decide +kernel)) dX0_addDrought_28 ?_
            refine lv_icmp_le (tgt := 35) hx hb dX0_addDrought_30 (by decide) (fun c6 => ?_) (fun c6 => ?_)
            · replace hc := ite_t c6 hc
              refine lv_aload_n hx hb dX0_addDrought_35 rfl (lv_at hl 0 rfl) ?_
              refine va_get (ci := 0) (v := .int (V 0 1)) (C := RX0) (T := TX0) (N := 10) hx hb hts inw_X0 hown hK.1 hP 0 rfl rfl 6 (by decide) fl_37 (fun _ h9 => h9) rfl dX0_addDrought_36 ?_
              refine lv_bipush (v := 20) hx hb dX0_addDrought_39 (by decide +kernel) ?_
              refine lv_icmp_lt (tgt := 47) hx hb dX0_addDrought_41 (by decide) (fun c7 => ?_) (fun c7 => ?_)
              · replace hc := ite_t c7 hc
                refine lv_aload_n hx hb dX0_addDrought_47 rfl (lv_at hl 0 rfl) ?_
                refine va_get (ci := 0) (v := .ref (a 2)) (C := RX0) (T := TX0) (N := 10) hx hb hts inw_X0 hown hK.1 hP 0 rfl rfl 1 (by decide) fl_16 (fun _ h9 => h9) rfl dX0_addDrought_48 ?_
                refine lv_iconst (v := 0) hx hb dX0_addDrought_51 (by decide) ?_
                refine g_aald (v := a 19) hx hb hK hP 2 rfl (vp_lit (by decide)) rfl dX0_addDrought_52 ?_
                refine lv_aload_n hx hb dX0_addDrought_53 rfl (lv_at hl 0 rfl) ?_
                refine va_get (ci := 0) (v := .int (V 0 1)) (C := RX0) (T := TX0) (N := 10) hx hb hts inw_X0 hown hK.1 hP 0 rfl rfl 6 (by decide) fl_37 (fun _ h9 => h9) rfl dX0_addDrought_54 ?_
                refine lv_iload_n hx hb dX0_addDrought_57 rfl (lv_at hl 1 rfl) ?_
                obtain ⟨V8, hi8, eV8, hc⟩ := wr_some hc
                refine g_iast (w' := FW cy a V8) hx hb hK hP hD hS 19 rfl hi8 (by rw [← eV8]; rfl) dX0_addDrought_58 (fun H locs hP hD hS => ?_)
                refine lv_aload_n hx hb dX0_addDrought_59 rfl (lv_at hl 0 rfl) ?_
                refine va_get (ci := 0) (v := .ref (a 2)) (C := RX0) (T := TX0) (N := 10) hx hb hts inw_X0 hown hK.1 hP 0 rfl rfl 1 (by decide) fl_16 (fun _ h9 => h9) rfl dX0_addDrought_60 ?_
                refine lv_iconst (v := 1) hx hb dX0_addDrought_63 (by decide) ?_
                refine g_aald (v := a 20) hx hb hK hP 2 rfl (vp_lit (by decide)) rfl dX0_addDrought_64 ?_
                refine lv_aload_n hx hb dX0_addDrought_65 rfl (lv_at hl 0 rfl) ?_
                refine va_get (ci := 0) (v := .int (V8 0 1)) (C := RX0) (T := TX0) (N := 10) hx hb hts inw_X0 hown hK.1 hP 0 rfl rfl 6 (by decide) fl_37 (fun _ h9 => h9) rfl dX0_addDrought_66 ?_
                refine lv_iload_n hx hb dX0_addDrought_69 rfl (lv_at hl 2 rfl) ?_
                obtain ⟨V9, hi9, eV9, hc⟩ := wr_some hc
                refine g_iast (w' := FW cy a V9) hx hb hK hP hD hS 20 rfl hi9 (by rw [← eV9]; rfl) dX0_addDrought_70 (fun H locs hP hD hS => ?_)
                refine lv_aload_n hx hb dX0_addDrought_71 rfl (lv_at hl 0 rfl) ?_
                refine va_get (ci := 0) (v := .ref (a 2)) (C := RX0) (T := TX0) (N := 10) hx hb hts inw_X0 hown hK.1 hP 0 rfl rfl 1 (by decide) fl_16 (fun _ h9 => h9) rfl dX0_addDrought_72 ?_
                refine lv_iconst (v := 2) hx hb dX0_addDrought_75 (by decide) ?_
                refine g_aald (v := a 21) hx hb hK hP 2 rfl (vp_lit (by decide)) rfl dX0_addDrought_76 ?_
                refine lv_aload_n hx hb dX0_addDrought_77 rfl (lv_at hl 0 rfl) ?_
                refine va_get (ci := 0) (v := .int (V9 0 1)) (C := RX0) (T := TX0) (N := 10) hx hb hts inw_X0 hown hK.1 hP 0 rfl rfl 6 (by decide) fl_37 (fun _ h9 => h9) rfl dX0_addDrought_78 ?_
                refine lv_iload_n hx hb dX0_addDrought_81 rfl (lv_at hl 3 rfl) ?_
                obtain ⟨V10, hi10, eV10, hc⟩ := wr_some hc
                refine g_iast (w' := FW cy a V10) hx hb hK hP hD hS 21 rfl hi10 (by rw [← eV10]; rfl) dX0_addDrought_82 (fun H locs hP hD hS => ?_)
                refine lv_aload_n hx hb dX0_addDrought_83 rfl (lv_at hl 0 rfl) ?_
                refine lv_dup hx hb dX0_addDrought_84 rfl ?_
                refine va_get (ci := 0) (v := .int (V10 0 1)) (C := RX0) (T := TX0) (N := 10) hx hb hts inw_X0 hown hK.1 hP 0 rfl rfl 6 (by decide) fl_37 (fun _ h9 => h9) rfl dX0_addDrought_85 ?_
                refine lv_dup_x1 hx hb dX0_addDrought_88 rfl rfl ?_
                refine lv_iconst (v := 1) hx hb dX0_addDrought_89 (by decide) ?_
                refine lv_iadd hx hb dX0_addDrought_90 ?_
                obtain ⟨V11, eV11, hc⟩ := lt1_some hc
                refine g_put (ci := 0) (C := RX0) (T := TX0) (N := 10) (w' := FW cy a V11) hx hb hts inw_X0 tyX0 tyX0_ok nmX0 hown hK hP hD hS 0 rfl rfl 6 (by decide) fl_37 (fun _ h9 => h9) rfl (by decide +kernel) (Nat.le_of_ble_eq_true rfl) (by rw [← eV11]; rfl) dX0_addDrought_91 (fun H locs hP hD hS => ?_)
                exact hend H locs _ _ _ _ (some_fst hc) (some_snd hc) rfl hP hD hS dX0_addDrought_94
              · replace hc := ite_f c7 hc
                refine lv_bipush (v := (-3)) hx hb dX0_addDrought_44 (by decide +kernel) ?_
                exact hend H locs _ _ _ _ (some_fst hc) (some_snd hc) rfl hP hD hS dX0_addDrought_46
            · replace hc := ite_f c6 hc
              refine lv_iconst (v := (-1)) hx hb dX0_addDrought_33 (by decide) ?_
              exact hend H locs _ _ _ _ (some_fst hc) (some_snd hc) rfl hP hD hS dX0_addDrought_34
  rw [hHe, hLe] at goal0
  exact goal0
set_option maxHeartbeats 4000000 in
set_option maxRecDepth 100000 in
theorem C_X0_shareOut (l : Launch) (D : va_G) (cy : Nat → ClassId) (a : Nat → Nat) (V : FV) (p1 : Int32) (p2 : Int32) (r : Int32) (V' : FV) (hc : f_X0_shareOut V p1 p2 = some (r, V')) : ConI l yX0_shareOut wsX0_shareOut 1 23 D cy (FW cy a) [.ref (a 0), .int p1, .int p2] V V' r := by
  refine bodyI (cc := cX0_shareOut) (maxL := 8) (ty := .int) (by decide +kernel) rfl (Nat.le_of_ble_eq_true rfl) ?_
  intro p e s m args below meth c A Q hx hb hml hts hown hK hP hD hA hS hend ls hl
  have hown : s.vm.findClass RX0 = some m.cls := hown
  have hP : va_P D vwCl (FW cy a V) s.heap := hP
  have hD : va_D A (FW cy a V) := hD
  have hl : lv_has ls 8 [(0, .ref (a 0)), (1, .int p1), (2, .int p2)] := hl
  have hend : ∀ (H : Heap) (locs : List Loc) (pc : Nat) (ls : Array Slot) (v : Int32) (V : FV), v = r → V = V' → narrow .int (.int v) = .int v → va_P D vwCl (FW cy a V) H → va_D A (FW cy a V) → va_S A s.heap H locs → decode cX0_shareOut pc = .ok (.ireturn, 1) → W p l e (RM 1 23) s m args below meth c H locs 0 0 Q (F0 m pc ls [.int v]) := fun H locs pc ls v V h1 h2 h3 h4 h5 h6 h7 => hend H locs pc ls v V h1 h2 h3 h4 h5 h6 h7
  have fl_26 := hts (.fieldLink RX0 26 "NoonWells$Field" "shares" "[I") (by decide +kernel)
  have inw_X0 := (by decide +kernel : ∀ w ∈ u_ws RX0 TX0 10, w ∈ wsX0_shareOut)
  have fl_11 := hts (.fieldLink RX0 11 "NoonWells$Field" "wells" "[[I") (by decide +kernel)
  have mm_l := hts (.methodLink RX0 49 Lib.Math.min.name) (by decide +kernel)
  have mm_s := hts (.static Lib.Math.min.name) (by decide +kernel)
  have mm_i := hts (.initialized "java/lang/Math") (by decide +kernel)
  have mm_c := hts (.code Lib.Math.min.name Lib.Math.min.code 2 (some .int)) (by decide +kernel)
  have L16 : ∀ (n : Nat), ∀ (y1 y2 y3 y4 y5 : Int32) (V : FV) (H : Heap) (locs : List Loc) (ls : Array Slot), f_X0_shareOut_L16 n y1 y2 y3 y4 y5 V = some (r, V') → va_P D vwCl (FW cy a V) H → va_D A (FW cy a V) → va_S A s.heap H locs → lv_has ls 8 [(0, .ref (a 0)), (1, .int y1), (2, .int y2), (3, .int y3), (4, .int y4), (5, .int y5)] → W p l e (RM 1 23) s m args below meth c H locs 0 0 Q (F0 m 16 ls []) := by
    intro n
    induction n with
    | zero =>
      intro y1 y2 y3 y4 y5 V H locs ls hc
      cases hc
    | succ n ih =>
      intro y1 y2 y3 y4 y5 V H locs ls hc hP hD hS hl
      refine lv_iload hx hb dX0_shareOut_16 (lv_at hl 5 rfl) ?_
      refine lv_bipush (v := 12) hx hb dX0_shareOut_18 (by decide +kernel) ?_
      refine lv_icmp_ge (tgt := 110) hx hb dX0_shareOut_20 (by decide) (fun c2 => ?_) (fun c2 => ?_)
      · replace hc := ite_t c2 hc
        refine lv_iload_n hx hb dX0_shareOut_110 rfl (lv_at hl 2 rfl) ?_
        refine lv_iload_n hx hb dX0_shareOut_111 rfl (lv_at hl 3 rfl) ?_
        refine lv_isub hx hb dX0_shareOut_112 ?_
        exact hend H locs _ _ _ _ (some_fst hc) (some_snd hc) rfl hP hD hS dX0_shareOut_113
      · replace hc := ite_f c2 hc
        refine lv_aload_n hx hb dX0_shareOut_23 rfl (lv_at hl 0 rfl) ?_
        refine lv_iload hx hb dX0_shareOut_24 (lv_at hl 4 rfl) ?_
        obtain ⟨x3, hc3, hc⟩ := b1_some hc
        refine gc_VI (n := 1) (q0 := 0) (ci := 0) (w' := FW cy a V) hx hb hml hown hts hK hP hD hS hA hl.1 ⟨Nat.le_refl _, Nat.le_refl _⟩ (C_X0_isWell l D cy a V y4 x3 hc3) gX0_shareOut_X0_isWell rfl (by decide +kernel) rfl ⟨by decide, by decide⟩ Jn.same rfl rfl rfl (Nat.le_of_ble_eq_true rfl) dX0_shareOut_26 (fun H locs hP hD hS => ?_)
        refine lv_if_eq (tgt := 110) hx hb dX0_shareOut_29 (by decide) (fun c4 => ?_) (fun c4 => ?_)
        · replace hc := ite_t c4 hc
          refine lv_iload_n hx hb dX0_shareOut_110 rfl (lv_at hl 2 rfl) ?_
          refine lv_iload_n hx hb dX0_shareOut_111 rfl (lv_at hl 3 rfl) ?_
          refine lv_isub hx hb dX0_shareOut_112 ?_
          exact hend H locs _ _ _ _ (some_fst hc) (some_snd hc) rfl hP hD hS dX0_shareOut_113
        · replace hc := ite_f c4 hc
          refine lv_aload_n hx hb dX0_shareOut_32 rfl (lv_at hl 0 rfl) ?_
          refine va_get (ci := 0) (v := .ref (a 1)) (C := RX0) (T := TX0) (N := 10) hx hb hts inw_X0 hown hK.1 hP 0 rfl rfl 0 (by decide) fl_11 (fun _ h9 => h9) rfl dX0_shareOut_33 ?_
          refine lv_iconst (v := 4) hx hb dX0_shareOut_36 (by decide) ?_
          refine g_aald (v := a 10) hx hb hK hP 1 rfl (vp_lit (by decide)) rfl dX0_shareOut_37 ?_
          refine lv_iload hx hb dX0_shareOut_38 (lv_at hl 4 rfl) ?_
          obtain ⟨x5, hi5, hv5, hc⟩ := rd_some hc
          refine g_iald (x := x5) hx hb hK hP 10 rfl hi5 hv5 dX0_shareOut_40 ?_
          refine lv_istore (lv' := [(6, .int x5), (0, .ref (a 0)), (1, .int y1), (2, .int y2), (3, .int y3), (4, .int y4), (5, .int y5)]) hx hb dX0_shareOut_41 hl (by decide) rfl (fun ls hl => ?_)
          refine lv_iload hx hb dX0_shareOut_43 (lv_at hl 5 rfl) ?_
          refine lv_iload_n hx hb dX0_shareOut_45 rfl (lv_at hl 2 rfl) ?_
          refine lv_icmp_ne (tgt := 54) hx hb dX0_shareOut_46 (by decide) (fun c6 => ?_) (fun c6 => ?_)
          · replace hc := ite_f c6 hc
            refine lv_iload hx hb dX0_shareOut_54 (lv_at hl 0 rfl) ?_
            refine lv_aload_n hx hb dX0_shareOut_56 rfl (lv_at hl 1 rfl) ?_
            refine va_get (ci := 0) (v := .ref (a 1)) (C := RX0) (T := TX0) (N := 10) hx hb hts inw_X0 hown hK.1 hP 0 rfl rfl 0 (by decide) fl_11 (fun _ h9 => h9) rfl dX0_shareOut_57 ?_
            refine lv_iconst (v := 3) hx hb dX0_shareOut_60 (by decide) ?_
            refine g_aald (v := a 9) hx hb hK hP 1 rfl (vp_lit (by decide)) rfl dX0_shareOut_61 ?_
            refine lv_iload hx hb dX0_shareOut_62 (lv_at hl 5 rfl) ?_
            obtain ⟨x7, hi7, hv7, hc⟩ := rd_some hc
            refine g_iald (x := x7) hx hb hK hP 9 rfl hi7 hv7 dX0_shareOut_64 ?_
            obtain ⟨x8, ex8, hc⟩ := lt1_some hc
            refine g_min ex8 hx hb hml hl.1 hown mm_l mm_s mm_i mm_c (Nat.le_of_ble_eq_true rfl) (Nat.le_of_ble_eq_true rfl) (Nat.le_refl _) (Nat.le_refl _) dX0_shareOut_65 ?_
            refine lv_istore (lv' := [(7, .int x8), (6, .int x5), (0, .ref (a 0)), (1, .int y1), (2, .int y2), (3, .int y3), (4, .int y4), (5, .int y5)]) hx hb dX0_shareOut_68 hl (by decide) rfl (fun ls hl => ?_)
            refine lv_aload_n hx hb dX0_shareOut_70 rfl (lv_at hl 2 rfl) ?_
            refine va_get (ci := 0) (v := .ref (a 5)) (C := RX0) (T := TX0) (N := 10) hx hb hts inw_X0 hown hK.1 hP 0 rfl rfl 4 (by decide) fl_26 (fun _ h9 => h9) rfl dX0_shareOut_71 ?_
            refine lv_iload hx hb dX0_shareOut_74 (lv_at hl 6 rfl) ?_
            refine lv_iload_n hx hb dX0_shareOut_76 rfl (lv_at hl 5 rfl) ?_
            refine lv_iload hx hb dX0_shareOut_77 (lv_at hl 0 rfl) ?_
            obtain ⟨x9, ex9, hc⟩ := lt1_some hc
            refine g_min ex9 hx hb hml hl.1 hown mm_l mm_s mm_i mm_c (Nat.le_of_ble_eq_true rfl) (Nat.le_of_ble_eq_true rfl) (Nat.le_refl _) (Nat.le_refl _) dX0_shareOut_79 ?_
            obtain ⟨V10, hi10, eV10, hc⟩ := wr_some hc
            refine g_iast (w' := FW cy a V10) hx hb hK hP hD hS 5 rfl hi10 (by rw [← eV10]; rfl) dX0_shareOut_82 (fun H locs hP hD hS => ?_)
            refine lv_iload_n hx hb dX0_shareOut_83 rfl (lv_at hl 5 rfl) ?_
            refine lv_aload_n hx hb dX0_shareOut_84 rfl (lv_at hl 2 rfl) ?_
            refine va_get (ci := 0) (v := .ref (a 5)) (C := RX0) (T := TX0) (N := 10) hx hb hts inw_X0 hown hK.1 hP 0 rfl rfl 4 (by decide) fl_26 (fun _ h9 => h9) rfl dX0_shareOut_85 ?_
            refine lv_iload hx hb dX0_shareOut_88 (lv_at hl 6 rfl) ?_
            obtain ⟨x11, hi11, hv11, hc⟩ := rd_some hc
            refine g_iald (x := x11) hx hb hK hP 5 rfl hi11 hv11 dX0_shareOut_90 ?_
            refine lv_isub hx hb dX0_shareOut_91 ?_
            refine lv_istore_n (lv' := [(3, .int (y3 - x11)), (7, .int x8), (6, .int x5), (0, .ref (a 0)), (1, .int y1), (2, .int y2), (4, .int y4), (5, .int y5)]) hx hb dX0_shareOut_92 rfl hl (by decide) rfl (fun ls hl => ?_)
            refine lv_aload_n hx hb dX0_shareOut_93 rfl (lv_at hl 3 rfl) ?_
            refine va_get (ci := 0) (v := .ref (a 1)) (C := RX0) (T := TX0) (N := 10) hx hb hts inw_X0 hown hK.1 hP 0 rfl rfl 0 (by decide) fl_11 (fun _ h9 => h9) rfl dX0_shareOut_94 ?_
            refine lv_iconst (v := 0) hx hb dX0_shareOut_97 (by decide) ?_
            refine g_aald (v := a 6) hx hb hK hP 1 rfl (vp_lit (by decide)) rfl dX0_shareOut_98 ?_
            refine lv_iload hx hb dX0_shareOut_99 (lv_at hl 6 rfl) ?_
            obtain ⟨x12, hi12, hv12, hc⟩ := rd_some hc
            refine g_iald (x := x12) hx hb hK hP 6 rfl hi12 hv12 dX0_shareOut_101 ?_
            refine lv_istore (lv' := [(4, .int x12), (3, .int (y3 - x11)), (7, .int x8), (6, .int x5), (0, .ref (a 0)), (1, .int y1), (2, .int y2), (5, .int y5)]) hx hb dX0_shareOut_102 hl (by decide) rfl (fun ls hl => ?_)
            refine lv_iinc (v := y5 + 1) (lv' := [(5, .int (y5 + 1)), (4, .int x12), (3, .int (y3 - x11)), (7, .int x8), (6, .int x5), (0, .ref (a 0)), (1, .int y1), (2, .int y2)]) hx hb dX0_shareOut_104 hl (k := 7) rfl rfl (by decide) rfl (fun ls hl => ?_)
            refine lv_goto (tgt := 16) hx hb dX0_shareOut_107 (by decide) ?_
            exact ih y1 y2 (y3 - x11) x12 (y5 + 1) V10 H locs ls hc hP hD hS (lv_sub hl [5, 6, 7, 2, 1, 0] rfl)
          · replace hc := ite_t c6 hc
            refine lv_iload hx hb dX0_shareOut_49 (lv_at hl 0 rfl) ?_
            refine lv_goto (tgt := 68) hx hb dX0_shareOut_51 (by decide) ?_
            refine lv_istore (lv' := [(7, .int x5), (6, .int x5), (0, .ref (a 0)), (1, .int y1), (2, .int y2), (3, .int y3), (4, .int y4), (5, .int y5)]) hx hb dX0_shareOut_68 hl (by decide) rfl (fun ls hl => ?_)
            refine lv_aload_n hx hb dX0_shareOut_70 rfl (lv_at hl 2 rfl) ?_
            refine va_get (ci := 0) (v := .ref (a 5)) (C := RX0) (T := TX0) (N := 10) hx hb hts inw_X0 hown hK.1 hP 0 rfl rfl 4 (by decide) fl_26 (fun _ h9 => h9) rfl dX0_shareOut_71 ?_
            refine lv_iload hx hb dX0_shareOut_74 (lv_at hl 6 rfl) ?_
            refine lv_iload_n hx hb dX0_shareOut_76 rfl (lv_at hl 5 rfl) ?_
            refine lv_iload hx hb dX0_shareOut_77 (lv_at hl 0 rfl) ?_
            obtain ⟨x13, ex13, hc⟩ := lt1_some hc
            refine g_min ex13 hx hb hml hl.1 hown mm_l mm_s mm_i mm_c (Nat.le_of_ble_eq_true rfl) (Nat.le_of_ble_eq_true rfl) (Nat.le_refl _) (Nat.le_refl _) dX0_shareOut_79 ?_
            obtain ⟨V14, hi14, eV14, hc⟩ := wr_some hc
            refine g_iast (w' := FW cy a V14) hx hb hK hP hD hS 5 rfl hi14 (by rw [← eV14]; rfl) dX0_shareOut_82 (fun H locs hP hD hS => ?_)
            refine lv_iload_n hx hb dX0_shareOut_83 rfl (lv_at hl 5 rfl) ?_
            refine lv_aload_n hx hb dX0_shareOut_84 rfl (lv_at hl 2 rfl) ?_
            refine va_get (ci := 0) (v := .ref (a 5)) (C := RX0) (T := TX0) (N := 10) hx hb hts inw_X0 hown hK.1 hP 0 rfl rfl 4 (by decide) fl_26 (fun _ h9 => h9) rfl dX0_shareOut_85 ?_
            refine lv_iload hx hb dX0_shareOut_88 (lv_at hl 6 rfl) ?_
            obtain ⟨x15, hi15, hv15, hc⟩ := rd_some hc
            refine g_iald (x := x15) hx hb hK hP 5 rfl hi15 hv15 dX0_shareOut_90 ?_
            refine lv_isub hx hb dX0_shareOut_91 ?_
            refine lv_istore_n (lv' := [(3, .int (y3 - x15)), (7, .int x5), (6, .int x5), (0, .ref (a 0)), (1, .int y1), (2, .int y2), (4, .int y4), (5, .int y5)]) hx hb dX0_shareOut_92 rfl hl (by decide) rfl (fun ls hl => ?_)
            refine lv_aload_n hx hb dX0_shareOut_93 rfl (lv_at hl 3 rfl) ?_
            refine va_get (ci := 0) (v := .ref (a 1)) (C := RX0) (T := TX0) (N := 10) hx hb hts inw_X0 hown hK.1 hP 0 rfl rfl 0 (by decide) fl_11 (fun _ h9 => h9) rfl dX0_shareOut_94 ?_
            refine lv_iconst (v := 0) hx hb dX0_shareOut_97 (by decide) ?_
            refine g_aald (v := a 6) hx hb hK hP 1 rfl (vp_lit (by decide)) rfl dX0_shareOut_98 ?_
            refine lv_iload hx hb dX0_shareOut_99 (lv_at hl 6 rfl) ?_
            obtain ⟨x16, hi16, hv16, hc⟩ := rd_some hc
            refine g_iald (x := x16) hx hb hK hP 6 rfl hi16 hv16 dX0_shareOut_101 ?_
            refine lv_istore (lv' := [(4, .int x16), (3, .int (y3 - x15)), (7, .int x5), (6, .int x5), (0, .ref (a 0)), (1, .int y1), (2, .int y2), (5, .int y5)]) hx hb dX0_shareOut_102 hl (by decide) rfl (fun ls hl => ?_)
            refine lv_iinc (v := y5 + 1) (lv' := [(5, .int (y5 + 1)), (4, .int x16), (3, .int (y3 - x15)), (7, .int x5), (6, .int x5), (0, .ref (a 0)), (1, .int y1), (2, .int y2)]) hx hb dX0_shareOut_104 hl (k := 7) rfl rfl (by decide) rfl (fun ls hl => ?_)
            refine lv_goto (tgt := 16) hx hb dX0_shareOut_107 (by decide) ?_
            exact ih y1 y2 (y3 - x15) x16 (y5 + 1) V14 H locs ls hc hP hD hS (lv_sub hl [5, 6, 7, 2, 1, 0] rfl)
  obtain ⟨H, hHe⟩ : ∃ H : Heap, H = s.heap := ⟨_, rfl⟩
  obtain ⟨locs, hLe⟩ : ∃ x : List Loc, x = [] := ⟨_, rfl⟩
  have hP : va_P D vwCl (FW cy a V) H := by rw [hHe]; exact hP
  have hS : va_S A s.heap H locs := by rw [hHe, hLe]; exact hS
  have goal0 : W p l e (RM 1 23) s m args below meth c H locs 0 0 Q (F0 m 0 ls []) := by
    refine lv_aload_n hx hb dX0_shareOut_0 rfl (lv_at hl 0 rfl) ?_
    refine va_get (ci := 0) (v := .ref (a 5)) (C := RX0) (T := TX0) (N := 10) hx hb hts inw_X0 hown hK.1 hP 0 rfl rfl 4 (by decide) fl_26 (fun _ h9 => h9) rfl dX0_shareOut_1 ?_
    refine lv_iconst (v := 0) hx hb dX0_shareOut_4 (by decide) ?_
    obtain ⟨V1, eV1, hc⟩ := lt1_some hc
    refine gc_SV (n := 2) (w' := FW cy a V1) hx hb hml hown hts hK hP hD hS hA hl.1 ⟨Nat.le_refl _, Nat.le_refl _⟩ (C_fill l D cy (a 5) 12 (V 5) 0 (by decide)) gX0_shareOut_J7_fill_53178 rfl (by decide +kernel) rfl ⟨by decide, by decide⟩ (by rw [← eV1]; exact J_fill) rfl (Nat.le_of_ble_eq_true rfl) dX0_shareOut_5 (fun H locs hP hD hS => ?_)
    refine lv_iload_n hx hb dX0_shareOut_8 rfl (lv_at hl 2 rfl) ?_
    refine lv_istore_n (lv' := [(3, .int p2), (0, .ref (a 0)), (1, .int p1), (2, .int p2)]) hx hb dX0_shareOut_9 rfl hl (by decide) rfl (fun ls hl => ?_)
    refine lv_iload_n hx hb dX0_shareOut_10 rfl (lv_at hl 2 rfl) ?_
    refine lv_istore (lv' := [(4, .int p1), (3, .int p2), (0, .ref (a 0)), (1, .int p1), (2, .int p2)]) hx hb dX0_shareOut_11 hl (by decide) rfl (fun ls hl => ?_)
    refine lv_iconst (v := 0) hx hb dX0_shareOut_13 (by decide) ?_
    refine lv_istore (lv' := [(5, .int 0), (4, .int p1), (3, .int p2), (0, .ref (a 0)), (1, .int p1), (2, .int p2)]) hx hb dX0_shareOut_14 hl (by decide) rfl (fun ls hl => ?_)
    exact L16 FUEL p1 p2 p2 p1 0 V1 H locs ls hc hP hD hS (lv_sub hl [3, 4, 5, 2, 1, 0] rfl)
  rw [hHe, hLe] at goal0
  exact goal0
