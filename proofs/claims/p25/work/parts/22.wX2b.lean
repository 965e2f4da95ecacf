set_option maxHeartbeats 4000000 in
set_option maxRecDepth 100000 in
theorem C_X2_readOrder (l : Launch) (D : va_G) (cy : Nat → ClassId) (a : Nat → Nat) (V : FV) (p1 : Int32) (r : Int32) (V' : FV) (hc : f_X2_readOrder V p1 = some (r, V')) : ConI l yX2_readOrder wsX2_readOrder 2 43 D cy (SW cy a) [.ref (a 0), .int p1] V V' r := by
  refine bodyI (cc := cX2_readOrder) (maxL := 5) (ty := .boolean) (by decide +kernel) rfl (Nat.le_of_ble_eq_true rfl) ?_
  intro p e s m args below meth c A Q hx hb hml hts hown hK hP hD hA hS hend ls hl
  have hown : s.vm.findClass RX2 = some m.cls := hown
  have hP : va_P D vwCl (SW cy a V) s.heap := hP
  have hD : va_D A (SW cy a V) := hD
  have hl : lv_has ls 5 [(0, .ref (a 0)), (1, .int p1)] := hl
  have hend : ∀ (H : Heap) (locs : List Loc) (pc : Nat) (ls : Array Slot) (v : Int32) (V : FV), v = r → V = V' → narrow .boolean (.int v) = .int v → va_P D vwCl (SW cy a V) H → va_D A (SW cy a V) → va_S A s.heap H locs → decode cX2_readOrder pc = .ok (.ireturn, 1) → W p l e (RM 2 43) s m args below meth c H locs 0 0 Q (F0 m pc ls [.int v]) := fun H locs pc ls v V h1 h2 h3 h4 h5 h6 h7 => hend H locs pc ls v V h1 h2 h3 h4 h5 h6 h7
  have fl_32 := hts (.fieldLink RX2 32 "NoonWells$Script" "next" "I") (by decide +kernel)
  have inw_X2 := (by decide +kernel : ∀ w ∈ u_ws RX2 TX2 7, w ∈ wsX2_readOrder)
  have fl_19 := hts (.fieldLink RX2 19 "NoonWells$Script" "length" "I") (by decide +kernel)
  have fl_9 := hts (.fieldLink RX2 9 "NoonWells$Script" "signs" "[C") (by decide +kernel)
  have L17 : ∀ (n : Nat), ∀ (y1 y2 y3 : Int32) (V : FV) (H : Heap) (locs : List Loc) (ls : Array Slot), f_X2_readOrder_L17 n y1 y2 y3 V = some (r, V') → va_P D vwCl (SW cy a V) H → va_D A (SW cy a V) → va_S A s.heap H locs → lv_has ls 5 [(0, .ref (a 0)), (1, .int y1), (2, .int y2), (3, .int y3)] → W p l e (RM 2 43) s m args below meth c H locs 0 0 Q (F0 m 17 ls []) := by
    intro n
    induction n with
    | zero =>
      intro y1 y2 y3 V H locs ls hc
      cases hc
    | succ n ih =>
      intro y1 y2 y3 V H locs ls hc hP hD hS hl
      refine lv_iload_n hx hb dX2_readOrder_17 rfl (lv_at hl 3 rfl) ?_
      refine lv_iload_n hx hb dX2_readOrder_18 rfl (lv_at hl 2 rfl) ?_
      refine lv_icmp_ge (tgt := 94) hx hb dX2_readOrder_19 (by decide) (fun c3 => ?_) (fun c3 => ?_)
      · replace hc := ite_t c3 hc
        refine lv_iload_n hx hb dX2_readOrder_94 rfl (lv_at hl 2 rfl) ?_
        refine lv_if_le (tgt := 102) hx hb dX2_readOrder_95 (by decide) (fun c4 => ?_) (fun c4 => ?_)
        · replace hc := ite_t c4 hc
          refine lv_iconst (v := 0) hx hb dX2_readOrder_102 (by decide) ?_
          exact hend H locs _ _ _ _ (some_fst hc) (some_snd hc) rfl hP hD hS dX2_readOrder_103
        · replace hc := ite_f c4 hc
          refine lv_iconst (v := 1) hx hb dX2_readOrder_98 (by decide) ?_
          refine lv_goto (tgt := 103) hx hb dX2_readOrder_99 (by decide) ?_
          exact hend H locs _ _ _ _ (some_fst hc) (some_snd hc) rfl hP hD hS dX2_readOrder_103
      · replace hc := ite_f c3 hc
        refine lv_iload_n hx hb dX2_readOrder_22 rfl (lv_at hl 3 rfl) ?_
        refine lv_iconst (v := 3) hx hb dX2_readOrder_23 (by decide) ?_
        refine lv_icmp_ge (tgt := 94) hx hb dX2_readOrder_24 (by decide) (fun c5 => ?_) (fun c5 => ?_)
        · replace hc := ite_t c5 hc
          refine lv_iload_n hx hb dX2_readOrder_94 rfl (lv_at hl 2 rfl) ?_
          refine lv_if_le (tgt := 102) hx hb dX2_readOrder_95 (by decide) (fun c6 => ?_) (fun c6 => ?_)
          · replace hc := ite_t c6 hc
            refine lv_iconst (v := 0) hx hb dX2_readOrder_102 (by decide) ?_
            exact hend H locs _ _ _ _ (some_fst hc) (some_snd hc) rfl hP hD hS dX2_readOrder_103
          · replace hc := ite_f c6 hc
            refine lv_iconst (v := 1) hx hb dX2_readOrder_98 (by decide) ?_
            refine lv_goto (tgt := 103) hx hb dX2_readOrder_99 (by decide) ?_
            exact hend H locs _ _ _ _ (some_fst hc) (some_snd hc) rfl hP hD hS dX2_readOrder_103
        · replace hc := ite_f c5 hc
          refine lv_iload_n hx hb dX2_readOrder_27 rfl (lv_at hl 3 rfl) ?_
          refine lv_iload_n hx hb dX2_readOrder_28 rfl (lv_at hl 2 rfl) ?_
          refine lv_iconst (v := 1) hx hb dX2_readOrder_29 (by decide) ?_
          refine lv_isub hx hb dX2_readOrder_30 ?_
          refine lv_icmp_ne (tgt := 39) hx hb dX2_readOrder_31 (by decide) (fun c7 => ?_) (fun c7 => ?_)
          · replace hc := ite_f c7 hc
            refine lv_bipush (v := 44) hx hb dX2_readOrder_39 (by decide +kernel) ?_
            refine lv_istore (lv' := [(4, .int 44), (0, .ref (a 0)), (1, .int y1), (2, .int y2), (3, .int y3)]) hx hb dX2_readOrder_41 hl (by decide) rfl (fun ls hl => ?_)
            refine lv_aload_n hx hb dX2_readOrder_43 rfl (lv_at hl 1 rfl) ?_
            refine lv_iload_n hx hb dX2_readOrder_44 rfl (lv_at hl 4 rfl) ?_
            obtain ⟨x8, V8, hc8, hc⟩ := b2_some hc
            refine gc_VI (n := 1) (q0 := 0) (ci := 2) (w' := SW cy a V8) hx hb hml hown hts hK hP hD hS hA hl.1 ⟨Nat.le_refl _, Nat.le_refl _⟩ (C_X2_readNumber l D cy a V y3 x8 V8 hc8) gX2_readOrder_X2_readNumber rfl (by decide +kernel) rfl ⟨by decide, by decide⟩ Jn.same rfl rfl rfl (Nat.le_of_ble_eq_true rfl) dX2_readOrder_45 (fun H locs hP hD hS => ?_)
            refine lv_if_eq (tgt := 76) hx hb dX2_readOrder_48 (by decide) (fun c9 => ?_) (fun c9 => ?_)
            · replace hc := ite_t c9 hc
              refine lv_iconst (v := 0) hx hb dX2_readOrder_76 (by decide) ?_
              exact hend H locs _ _ _ _ (some_fst hc) (some_snd hc) rfl hP hD hS dX2_readOrder_77
            · replace hc := ite_f c9 hc
              refine lv_aload_n hx hb dX2_readOrder_51 rfl (lv_at hl 1 rfl) ?_
              refine va_get (ci := 2) (v := .int (V8 0 1)) (C := RX2) (T := TX2) (N := 7) hx hb hts inw_X2 hown hK.1 hP 0 rfl rfl 3 (by decide) fl_32 (fun _ h9 => h9) rfl dX2_readOrder_52 ?_
              refine lv_aload_n hx hb dX2_readOrder_55 rfl (lv_at hl 1 rfl) ?_
              refine va_get (ci := 2) (v := .int (V8 0 0)) (C := RX2) (T := TX2) (N := 7) hx hb hts inw_X2 hown hK.1 hP 0 rfl rfl 2 (by decide) fl_19 (fun _ h9 => h9) rfl dX2_readOrder_56 ?_
              refine lv_icmp_ge (tgt := 76) hx hb dX2_readOrder_59 (by decide) (fun c10 => ?_) (fun c10 => ?_)
              · replace hc := ite_t c10 hc
                refine lv_iconst (v := 0) hx hb dX2_readOrder_76 (by decide) ?_
                exact hend H locs _ _ _ _ (some_fst hc) (some_snd hc) rfl hP hD hS dX2_readOrder_77
              · replace hc := ite_f c10 hc
                refine lv_aload_n hx hb dX2_readOrder_62 rfl (lv_at hl 1 rfl) ?_
                refine va_get (ci := 2) (v := .ref (a 1)) (C := RX2) (T := TX2) (N := 7) hx hb hts inw_X2 hown hK.1 hP 0 rfl rfl 0 (by decide) fl_9 (fun _ h9 => h9) rfl dX2_readOrder_63 ?_
                refine lv_aload_n hx hb dX2_readOrder_66 rfl (lv_at hl 1 rfl) ?_
                refine va_get (ci := 2) (v := .int (V8 0 1)) (C := RX2) (T := TX2) (N := 7) hx hb hts inw_X2 hown hK.1 hP 0 rfl rfl 3 (by decide) fl_32 (fun _ h9 => h9) rfl dX2_readOrder_67 ?_
                obtain ⟨x11, hi11, hv11, hc⟩ := rd_some hc
                refine g_cald (x := x11) hx hb hK hP 1 rfl hi11 hv11 dX2_readOrder_70 ?_
                refine lv_iload hx hb dX2_readOrder_71 (lv_at hl 0 rfl) ?_
                refine lv_icmp_eq (tgt := 78) hx hb dX2_readOrder_73 (by decide) (fun c12 => ?_) (fun c12 => ?_)
                · replace hc := ite_t c12 hc
                  refine lv_aload_n hx hb dX2_readOrder_78 rfl (lv_at hl 1 rfl) ?_
                  refine lv_dup hx hb dX2_readOrder_79 rfl ?_
                  refine va_get (ci := 2) (v := .int (V8 0 1)) (C := RX2) (T := TX2) (N := 7) hx hb hts inw_X2 hown hK.1 hP 0 rfl rfl 3 (by decide) fl_32 (fun _ h9 => h9) rfl dX2_readOrder_80 ?_
                  refine lv_iconst (v := 1) hx hb dX2_readOrder_83 (by decide) ?_
                  refine lv_iadd hx hb dX2_readOrder_84 ?_
                  obtain ⟨V13, eV13, hc⟩ := lt1_some hc
                  refine g_put (ci := 2) (C := RX2) (T := TX2) (N := 7) (w' := SW cy a V13) hx hb hts inw_X2 tyX2 tyX2_ok nmX2 hown hK hP hD hS 0 rfl rfl 3 (by decide) fl_32 (fun _ h9 => h9) rfl (by decide +kernel) (Nat.le_of_ble_eq_true rfl) (by rw [← eV13]; rfl) dX2_readOrder_85 (fun H locs hP hD hS => ?_)
                  refine lv_iinc (v := y3 + 1) (lv' := [(3, .int (y3 + 1)), (4, .int 44), (0, .ref (a 0)), (1, .int y1), (2, .int y2)]) hx hb dX2_readOrder_88 hl (k := 4) rfl rfl (by decide) rfl (fun ls hl => ?_)
                  refine lv_goto (tgt := 17) hx hb dX2_readOrder_91 (by decide) ?_
                  exact ih y1 y2 (y3 + 1) V13 H locs ls hc hP hD hS (lv_sub hl [2, 3, 4, 0] rfl)
                · replace hc := ite_f c12 hc
                  refine lv_iconst (v := 0) hx hb dX2_readOrder_76 (by decide) ?_
                  exact hend H locs _ _ _ _ (some_fst hc) (some_snd hc) rfl hP hD hS dX2_readOrder_77
          · replace hc := ite_t c7 hc
            refine lv_bipush (v := 59) hx hb dX2_readOrder_34 (by decide +kernel) ?_
            refine lv_goto (tgt := 41) hx hb dX2_readOrder_36 (by decide) ?_
            refine lv_istore (lv' := [(4, .int 59), (0, .ref (a 0)), (1, .int y1), (2, .int y2), (3, .int y3)]) hx hb dX2_readOrder_41 hl (by decide) rfl (fun ls hl => ?_)
            refine lv_aload_n hx hb dX2_readOrder_43 rfl (lv_at hl 1 rfl) ?_
            refine lv_iload_n hx hb dX2_readOrder_44 rfl (lv_at hl 4 rfl) ?_
            obtain ⟨x14, V14, hc14, hc⟩ := b2_some hc
            refine gc_VI (n := 1) (q0 := 0) (ci := 2) (w' := SW cy a V14) hx hb hml hown hts hK hP hD hS hA hl.1 ⟨Nat.le_refl _, Nat.le_refl _⟩ (C_X2_readNumber l D cy a V y3 x14 V14 hc14) gX2_readOrder_X2_readNumber rfl (by decide +kernel) rfl ⟨by decide, by decide⟩ Jn.same rfl rfl rfl (Nat.le_of_ble_eq_true rfl) dX2_readOrder_45 (fun H locs hP hD hS => ?_)
            refine lv_if_eq (tgt := 76) hx hb dX2_readOrder_48 (by decide) (fun c15 => ?_) (fun c15 => ?_)
            · replace hc := ite_t c15 hc
              refine lv_iconst (v := 0) hx hb dX2_readOrder_76 (by decide) ?_
              exact hend H locs _ _ _ _ (some_fst hc) (some_snd hc) rfl hP hD hS dX2_readOrder_77
            · replace hc := ite_f c15 hc
              refine lv_aload_n hx hb dX2_readOrder_51 rfl (lv_at hl 1 rfl) ?_
              refine va_get (ci := 2) (v := .int (V14 0 1)) (C := RX2) (T := TX2) (N := 7) hx hb hts inw_X2 hown hK.1 hP 0 rfl rfl 3 (by decide) fl_32 (fun _ h9 => h9) rfl dX2_readOrder_52 ?_
              refine lv_aload_n hx hb dX2_readOrder_55 rfl (lv_at hl 1 rfl) ?_
              refine va_get (ci := 2) (v := .int (V14 0 0)) (C := RX2) (T := TX2) (N := 7) hx hb hts inw_X2 hown hK.1 hP 0 rfl rfl 2 (by decide) fl_19 (fun _ h9 => h9) rfl dX2_readOrder_56 ?_
              refine lv_icmp_ge (tgt := 76) hx hb dX2_readOrder_59 (by decide) (fun c16 => ?_) (fun c16 => ?_)
              · replace hc := ite_t c16 hc
                refine lv_iconst (v := 0) hx hb dX2_readOrder_76 (by decide) ?_
                exact hend H locs _ _ _ _ (some_fst hc) (some_snd hc) rfl hP hD hS dX2_readOrder_77
              · replace hc := ite_f c16 hc
                refine lv_aload_n hx hb dX2_readOrder_62 rfl (lv_at hl 1 rfl) ?_
                refine va_get (ci := 2) (v := .ref (a 1)) (C := RX2) (T := TX2) (N := 7) hx hb hts inw_X2 hown hK.1 hP 0 rfl rfl 0 (by decide) fl_9 (fun _ h9 => h9) rfl dX2_readOrder_63 ?_
                refine lv_aload_n hx hb dX2_readOrder_66 rfl (lv_at hl 1 rfl) ?_
                refine va_get (ci := 2) (v := .int (V14 0 1)) (C := RX2) (T := TX2) (N := 7) hx hb hts inw_X2 hown hK.1 hP 0 rfl rfl 3 (by decide) fl_32 (fun _ h9 => h9) rfl dX2_readOrder_67 ?_
                obtain ⟨x17, hi17, hv17, hc⟩ := rd_some hc
                refine g_cald (x := x17) hx hb hK hP 1 rfl hi17 hv17 dX2_readOrder_70 ?_
                refine lv_iload hx hb dX2_readOrder_71 (lv_at hl 0 rfl) ?_
                refine lv_icmp_eq (tgt := 78) hx hb dX2_readOrder_73 (by decide) (fun c18 => ?_) (fun c18 => ?_)
                · replace hc := ite_t c18 hc
                  refine lv_aload_n hx hb dX2_readOrder_78 rfl (lv_at hl 1 rfl) ?_
                  refine lv_dup hx hb dX2_readOrder_79 rfl ?_
                  refine va_get (ci := 2) (v := .int (V14 0 1)) (C := RX2) (T := TX2) (N := 7) hx hb hts inw_X2 hown hK.1 hP 0 rfl rfl 3 (by decide) fl_32 (fun _ h9 => h9) rfl dX2_readOrder_80 ?_
                  refine lv_iconst (v := 1) hx hb dX2_readOrder_83 (by decide) ?_
                  refine lv_iadd hx hb dX2_readOrder_84 ?_
                  obtain ⟨V19, eV19, hc⟩ := lt1_some hc
                  refine g_put (ci := 2) (C := RX2) (T := TX2) (N := 7) (w' := SW cy a V19) hx hb hts inw_X2 tyX2 tyX2_ok nmX2 hown hK hP hD hS 0 rfl rfl 3 (by decide) fl_32 (fun _ h9 => h9) rfl (by decide +kernel) (Nat.le_of_ble_eq_true rfl) (by rw [← eV19]; rfl) dX2_readOrder_85 (fun H locs hP hD hS => ?_)
                  refine lv_iinc (v := y3 + 1) (lv' := [(3, .int (y3 + 1)), (4, .int 59), (0, .ref (a 0)), (1, .int y1), (2, .int y2)]) hx hb dX2_readOrder_88 hl (k := 4) rfl rfl (by decide) rfl (fun ls hl => ?_)
                  refine lv_goto (tgt := 17) hx hb dX2_readOrder_91 (by decide) ?_
                  exact ih y1 y2 (y3 + 1) V19 H locs ls hc hP hD hS (lv_sub hl [2, 3, 4, 0] rfl)
                · replace hc := ite_f c18 hc
                  refine lv_iconst (v := 0) hx hb dX2_readOrder_76 (by decide) ?_
                  exact hend H locs _ _ _ _ (some_fst hc) (some_snd hc) rfl hP hD hS dX2_readOrder_77
  obtain ⟨H, hHe⟩ : ∃ H : Heap, H = s.heap := ⟨_, rfl⟩
  obtain ⟨locs, hLe⟩ : ∃ x : List Loc, x = [] := ⟨_, rfl⟩
  have hP : va_P D vwCl (SW cy a V) H := by rw [hHe]; exact hP
  have hS : va_S A s.heap H locs := by rw [hHe, hLe]; exact hS
  have goal0 : W p l e (RM 2 43) s m args below meth c H locs 0 0 Q (F0 m 0 ls []) := by
    refine lv_aload_n hx hb dX2_readOrder_0 rfl (lv_at hl 0 rfl) ?_
    refine lv_dup hx hb dX2_readOrder_1 rfl ?_
    refine va_get (ci := 2) (v := .int (V 0 1)) (C := RX2) (T := TX2) (N := 7) hx hb hts inw_X2 hown hK.1 hP 0 rfl rfl 3 (by decide) fl_32 (fun _ h9 => h9) rfl dX2_readOrder_2 ?_
    refine lv_iconst (v := 1) hx hb dX2_readOrder_5 (by decide) ?_
    refine lv_iadd hx hb dX2_readOrder_6 ?_
    obtain ⟨V1, eV1, hc⟩ := lt1_some hc
    refine g_put (ci := 2) (C := RX2) (T := TX2) (N := 7) (w' := SW cy a V1) hx hb hts inw_X2 tyX2 tyX2_ok nmX2 hown hK hP hD hS 0 rfl rfl 3 (by decide) fl_32 (fun _ h9 => h9) rfl (by decide +kernel) (Nat.le_of_ble_eq_true rfl) (by rw [← eV1]; rfl) dX2_readOrder_7 (fun H locs hP hD hS => ?_)
    refine lv_iload_n hx hb dX2_readOrder_10 rfl (lv_at hl 1 rfl) ?_
    obtain ⟨x2, hc2, hc⟩ := b1_some hc
    refine gc_SI (n := 1) (w' := SW cy a V1) hx hb hml hown hts hK hP hD hS hA hl.1 ⟨Nat.le_refl _, Nat.le_refl _⟩ (C_X2_numbersOf l D cy p1 x2 hc2) gX2_readOrder_X2_numbersOf rfl (by decide +kernel) rfl ⟨by decide, by decide⟩ Jn.none rfl (Nat.le_of_ble_eq_true rfl) dX2_readOrder_11 (fun H locs hP hD hS => ?_)
    refine lv_istore_n (lv' := [(2, .int x2), (0, .ref (a 0)), (1, .int p1)]) hx hb dX2_readOrder_14 rfl hl (by decide) rfl (fun ls hl => ?_)
    refine lv_iconst (v := 0) hx hb dX2_readOrder_15 (by decide) ?_
    refine lv_istore_n (lv' := [(3, .int 0), (2, .int x2), (0, .ref (a 0)), (1, .int p1)]) hx hb dX2_readOrder_16 rfl hl (by decide) rfl (fun ls hl => ?_)
    exact L17 FUEL p1 x2 0 V1 H locs ls hc hP hD hS (lv_sub hl [2, 3, 1, 0] rfl)
  rw [hHe, hLe] at goal0
  exact goal0
set_option maxHeartbeats 4000000 in
set_option maxRecDepth 100000 in
theorem C_X2_doOrder (l : Launch) (D : va_G) (cy : Nat → ClassId) (a b : Nat → Nat) (U : FV) (V : FV) (p2 : Int32) (r : Int32) (U' : FV) (V' : FV) (hc : f_X2_doOrder U V p2 = some (r, (U', V'))) : ConI l yX2_doOrder wsX2_doOrder 5 119 D cy (fun (u : FV × FV) => FW cy b u.1 ++ SW cy a u.2) [.ref (a 0), .ref (b 0), .int p2] ((U, V)) ((U', V')) r := by
  refine bodyI (cc := cX2_doOrder) (maxL := 3) (ty := .int) (by decide +kernel) rfl (Nat.le_of_ble_eq_true rfl) ?_
  intro p e s m args below meth c A Q hx hb hml hts hown hK hP hD hA hS hend ls hl
  have hown : s.vm.findClass RX2 = some m.cls := hown
  have hP : va_P D vwCl (FW cy b U ++ SW cy a V) s.heap := hP
  have hD : va_D A (FW cy b U ++ SW cy a V) := hD
  have hl : lv_has ls 3 [(0, .ref (a 0)), (1, .ref (b 0)), (2, .int p2)] := hl
  have hend : ∀ (H : Heap) (locs : List Loc) (pc : Nat) (ls : Array Slot) (v : Int32) (U : FV) (V : FV), v = r → (U, V) = (U', V') → narrow .int (.int v) = .int v → va_P D vwCl (FW cy b U ++ SW cy a V) H → va_D A (FW cy b U ++ SW cy a V) → va_S A s.heap H locs → decode cX2_doOrder pc = .ok (.ireturn, 1) → W p l e (RM 5 119) s m args below meth c H locs 0 0 Q (F0 m pc ls [.int v]) := fun H locs pc ls v U V h1 h2 h3 h4 h5 h6 h7 => hend H locs pc ls v ((U, V)) h1 h2 h3 h4 h5 h6 h7
  have fl_15 := hts (.fieldLink RX2 15 "NoonWells$Script" "numbers" "[I") (by decide +kernel)
  have inw_X2 := (by decide +kernel : ∀ w ∈ u_ws RX2 TX2 7, w ∈ wsX2_doOrder)
  have inw_X0 := (by decide +kernel : ∀ w ∈ u_ws RX0 TX0 10, w ∈ wsX2_doOrder)
  obtain ⟨H, hHe⟩ : ∃ H : Heap, H = s.heap := ⟨_, rfl⟩
  obtain ⟨locs, hLe⟩ : ∃ x : List Loc, x = [] := ⟨_, rfl⟩
  have hP : va_P D vwCl (FW cy b U ++ SW cy a V) H := by rw [hHe]; exact hP
  have hS : va_S A s.heap H locs := by rw [hHe, hLe]; exact hS
  have goal0 : W p l e (RM 5 119) s m args below meth c H locs 0 0 Q (F0 m 0 ls []) := by
    refine lv_iload_n hx hb dX2_doOrder_0 rfl (lv_at hl 2 rfl) ?_
    by_cases c1 : p2 = 100
    · replace hc := ite_t c1 hc
      refine lv_lookup (off := 43) (tgt := 44) hx hb dX2_doOrder_1 (by decide) (by rw [c1]; rfl) (by decide) ?_
      refine lv_aload_n hx hb dX2_doOrder_44 rfl (lv_at hl 1 rfl) ?_
      refine lv_aload_n hx hb dX2_doOrder_45 rfl (lv_at hl 0 rfl) ?_
      refine va_get (ci := 2) (v := .ref (a 2)) (C := RX2) (T := TX2) (N := 7) hx hb hts inw_X2 hown hK.1 hP 25 rfl rfl 1 (by decide) fl_15 (fun _ h9 => h9) rfl dX2_doOrder_46 ?_
      refine lv_iconst (v := 0) hx hb dX2_doOrder_49 (by decide) ?_
      refine g_iald (x := V 2 0) hx hb hK hP 27 rfl (vp_lit (by decide)) rfl dX2_doOrder_50 ?_
      refine lv_aload_n hx hb dX2_doOrder_51 rfl (lv_at hl 0 rfl) ?_
      refine va_get (ci := 2) (v := .ref (a 2)) (C := RX2) (T := TX2) (N := 7) hx hb hts inw_X2 hown hK.1 hP 25 rfl rfl 1 (by decide) fl_15 (fun _ h9 => h9) rfl dX2_doOrder_52 ?_
      refine lv_iconst (v := 1) hx hb dX2_doOrder_55 (by decide) ?_
      refine g_iald (x := V 2 1) hx hb hK hP 27 rfl (vp_lit (by decide)) rfl dX2_doOrder_56 ?_
      obtain ⟨x2, U2, hc2, hc⟩ := b2_some hc
      refine gc_VI (n := 2) (q0 := 0) (ci := 0) (w' := FW cy b U2 ++ SW cy a V) hx hb hml hown hts hK hP hD hS hA hl.1 ⟨Nat.le_refl _, Nat.le_refl _⟩ (C_X0_takeDraw l D cy b U (V 2 0) (V 2 1) x2 U2 hc2) gX2_doOrder_X0_takeDraw rfl (by decide +kernel) rfl ⟨by decide, by decide⟩ (Jn.perm (List.Perm.refl _) (List.Perm.refl _)) rfl rfl rfl (Nat.le_of_ble_eq_true rfl) dX2_doOrder_57 (fun H locs hP hD hS => ?_)
      exact hend H locs _ _ _ _ _ (some_fst hc) (some_snd hc) rfl hP hD hS dX2_doOrder_60
    replace hc := ite_f c1 hc
    by_cases c3 : p2 = 110
    · replace hc := ite_t c3 hc
      refine lv_lookup (off := 88) (tgt := 89) hx hb dX2_doOrder_1 (by decide) (by rw [c3]; rfl) (by decide) ?_
      refine lv_aload_n hx hb dX2_doOrder_89 rfl (lv_at hl 1 rfl) ?_
      refine lv_aload_n hx hb dX2_doOrder_90 rfl (lv_at hl 0 rfl) ?_
      refine va_get (ci := 2) (v := .ref (a 2)) (C := RX2) (T := TX2) (N := 7) hx hb hts inw_X2 hown hK.1 hP 25 rfl rfl 1 (by decide) fl_15 (fun _ h9 => h9) rfl dX2_doOrder_91 ?_
      refine lv_iconst (v := 0) hx hb dX2_doOrder_94 (by decide) ?_
      refine g_iald (x := V 2 0) hx hb hK hP 27 rfl (vp_lit (by decide)) rfl dX2_doOrder_95 ?_
      refine lv_aload_n hx hb dX2_doOrder_96 rfl (lv_at hl 1 rfl) ?_
      refine va_getN (ci := 0) (v := .int (U 0 3)) (C := RX0) (T := TX0) (N := 10) hx hb hts inw_X0 hown hK.1 hP 0 rfl rfl 8 (by decide) (va_Nw.use rfl (hK.2 (.fieldLinkNest "NoonWells$Script" 67 "NoonWells$Field" "time" "I" "NoonWells") (by decide +kernel))) (fun _ h9 => h9) rfl dX2_doOrder_97 ?_
      refine lv_aload_n hx hb dX2_doOrder_100 rfl (lv_at hl 0 rfl) ?_
      refine va_get (ci := 2) (v := .ref (a 2)) (C := RX2) (T := TX2) (N := 7) hx hb hts inw_X2 hown hK.1 hP 25 rfl rfl 1 (by decide) fl_15 (fun _ h9 => h9) rfl dX2_doOrder_101 ?_
      refine lv_iconst (v := 1) hx hb dX2_doOrder_104 (by decide) ?_
      refine g_iald (x := V 2 1) hx hb hK hP 27 rfl (vp_lit (by decide)) rfl dX2_doOrder_105 ?_
      refine lv_iadd hx hb dX2_doOrder_106 ?_
      refine lv_aload_n hx hb dX2_doOrder_107 rfl (lv_at hl 1 rfl) ?_
      refine va_getN (ci := 0) (v := .int (U 0 3)) (C := RX0) (T := TX0) (N := 10) hx hb hts inw_X0 hown hK.1 hP 0 rfl rfl 8 (by decide) (va_Nw.use rfl (hK.2 (.fieldLinkNest "NoonWells$Script" 67 "NoonWells$Field" "time" "I" "NoonWells") (by decide +kernel))) (fun _ h9 => h9) rfl dX2_doOrder_108 ?_
      refine lv_aload_n hx hb dX2_doOrder_111 rfl (lv_at hl 0 rfl) ?_
      refine va_get (ci := 2) (v := .ref (a 2)) (C := RX2) (T := TX2) (N := 7) hx hb hts inw_X2 hown hK.1 hP 25 rfl rfl 1 (by decide) fl_15 (fun _ h9 => h9) rfl dX2_doOrder_112 ?_
      refine lv_iconst (v := 2) hx hb dX2_doOrder_115 (by decide) ?_
      refine g_iald (x := V 2 2) hx hb hK hP 27 rfl (vp_lit (by decide)) rfl dX2_doOrder_116 ?_
      refine lv_iadd hx hb dX2_doOrder_117 ?_
      obtain ⟨x4, U4, hc4, hc⟩ := b2_some hc
      refine gc_VI (n := 3) (q0 := 0) (ci := 0) (w' := FW cy b U4 ++ SW cy a V) hx hb hml hown hts hK hP hD hS hA hl.1 ⟨Nat.le_refl _, Nat.le_refl _⟩ (C_X0_addDrought l D cy b U (V 2 0) ((U 0 3) + (V 2 1)) ((U 0 3) + (V 2 2)) x4 U4 hc4) gX2_doOrder_X0_addDrought rfl (by decide +kernel) rfl ⟨by decide, by decide⟩ (Jn.perm (List.Perm.refl _) (List.Perm.refl _)) rfl rfl rfl (Nat.le_of_ble_eq_true rfl) dX2_doOrder_118 (fun H locs hP hD hS => ?_)
      exact hend H locs _ _ _ _ _ (some_fst hc) (some_snd hc) rfl hP hD hS dX2_doOrder_121
    replace hc := ite_f c3 hc
    by_cases c5 : p2 = 114
    · replace hc := ite_t c5 hc
      refine lv_lookup (off := 60) (tgt := 61) hx hb dX2_doOrder_1 (by decide) (by rw [c5]; rfl) (by decide) ?_
      refine lv_aload_n hx hb dX2_doOrder_61 rfl (lv_at hl 1 rfl) ?_
      refine lv_aload_n hx hb dX2_doOrder_62 rfl (lv_at hl 0 rfl) ?_
      refine va_get (ci := 2) (v := .ref (a 2)) (C := RX2) (T := TX2) (N := 7) hx hb hts inw_X2 hown hK.1 hP 25 rfl rfl 1 (by decide) fl_15 (fun _ h9 => h9) rfl dX2_doOrder_63 ?_
      refine lv_iconst (v := 0) hx hb dX2_doOrder_66 (by decide) ?_
      refine g_iald (x := V 2 0) hx hb hK hP 27 rfl (vp_lit (by decide)) rfl dX2_doOrder_67 ?_
      refine lv_aload_n hx hb dX2_doOrder_68 rfl (lv_at hl 0 rfl) ?_
      refine va_get (ci := 2) (v := .ref (a 2)) (C := RX2) (T := TX2) (N := 7) hx hb hts inw_X2 hown hK.1 hP 25 rfl rfl 1 (by decide) fl_15 (fun _ h9 => h9) rfl dX2_doOrder_69 ?_
      refine lv_iconst (v := 1) hx hb dX2_doOrder_72 (by decide) ?_
      refine g_iald (x := V 2 1) hx hb hK hP 27 rfl (vp_lit (by decide)) rfl dX2_doOrder_73 ?_
      obtain ⟨x6, U6, hc6, hc⟩ := b2_some hc
      refine gc_VI (n := 2) (q0 := 0) (ci := 0) (w' := FW cy b U6 ++ SW cy a V) hx hb hml hown hts hK hP hD hS hA hl.1 ⟨Nat.le_refl _, Nat.le_refl _⟩ (C_X0_takeRequest l D cy b U (V 2 0) (V 2 1) x6 U6 hc6) gX2_doOrder_X0_takeRequest rfl (by decide +kernel) rfl ⟨by decide, by decide⟩ (Jn.perm (List.Perm.refl _) (List.Perm.refl _)) rfl rfl rfl (Nat.le_of_ble_eq_true rfl) dX2_doOrder_74 (fun H locs hP hD hS => ?_)
      exact hend H locs _ _ _ _ _ (some_fst hc) (some_snd hc) rfl hP hD hS dX2_doOrder_77
    replace hc := ite_f c5 hc
    by_cases c7 : p2 = 116
    · replace hc := ite_t c7 hc
      refine lv_lookup (off := 77) (tgt := 78) hx hb dX2_doOrder_1 (by decide) (by rw [c7]; rfl) (by decide) ?_
      refine lv_aload_n hx hb dX2_doOrder_78 rfl (lv_at hl 1 rfl) ?_
      refine lv_aload_n hx hb dX2_doOrder_79 rfl (lv_at hl 0 rfl) ?_
      refine va_get (ci := 2) (v := .ref (a 2)) (C := RX2) (T := TX2) (N := 7) hx hb hts inw_X2 hown hK.1 hP 25 rfl rfl 1 (by decide) fl_15 (fun _ h9 => h9) rfl dX2_doOrder_80 ?_
      refine lv_iconst (v := 0) hx hb dX2_doOrder_83 (by decide) ?_
      refine g_iald (x := V 2 0) hx hb hK hP 27 rfl (vp_lit (by decide)) rfl dX2_doOrder_84 ?_
      obtain ⟨x8, U8, hc8, hc⟩ := b2_some hc
      refine gc_VI (n := 1) (q0 := 0) (ci := 0) (w' := FW cy b U8 ++ SW cy a V) hx hb hml hown hts hK hP hD hS hA hl.1 ⟨Nat.le_refl _, Nat.le_refl _⟩ (C_X0_passTicks l D cy b U (V 2 0) x8 U8 hc8) gX2_doOrder_X0_passTicks rfl (by decide +kernel) rfl ⟨by decide, by decide⟩ (Jn.perm (List.Perm.refl _) (List.Perm.refl _)) rfl rfl rfl (Nat.le_of_ble_eq_true rfl) dX2_doOrder_85 (fun H locs hP hD hS => ?_)
      exact hend H locs _ _ _ _ _ (some_fst hc) (some_snd hc) rfl hP hD hS dX2_doOrder_88
    replace hc := ite_f c7 hc
    refine lv_lookup (off := 121) (tgt := 122) hx hb dX2_doOrder_1 (by decide) (sw_X2_doOrder c1 c3 c5 c7) (by decide) ?_
    refine lv_iconst (v := (-1)) hx hb dX2_doOrder_122 (by decide) ?_
    exact hend H locs _ _ _ _ _ (some_fst hc) (some_snd hc) rfl hP hD hS dX2_doOrder_123
  rw [hHe, hLe] at goal0
  exact goal0
set_option maxHeartbeats 4000000 in
set_option maxRecDepth 100000 in
theorem C_X2_runOn (l : Launch) (D : va_G) (cy : Nat → ClassId) (a b : Nat → Nat) (U : FV) (V : FV) (U' : FV) (V' : FV) (hc : f_X2_runOn U V = some (U', V')) : ConV l yX2_runOn wsX2_runOn 6 141 D cy (fun (u : FV × FV) => FW cy b u.1 ++ SW cy a u.2) [.ref (a 0), .ref (b 0)] ((U, V)) ((U', V')) := by
  refine bodyV (cc := cX2_runOn) (maxL := 5) (by decide +kernel) rfl (Nat.le_of_ble_eq_true rfl) ?_
  intro p e s m args below meth c A Q hx hb hml hts hown hK hP hD hA hS hend ls hl
  have hown : s.vm.findClass RX2 = some m.cls := hown
  have hP : va_P D vwCl (FW cy b U ++ SW cy a V) s.heap := hP
  have hD : va_D A (FW cy b U ++ SW cy a V) := hD
  have hl : lv_has ls 5 [(0, .ref (a 0)), (1, .ref (b 0))] := hl
  have hend : ∀ (H : Heap) (locs : List Loc) (pc : Nat) (ls : Array Slot) (U : FV) (V : FV), (U, V) = (U', V') → va_P D vwCl (FW cy b U ++ SW cy a V) H → va_D A (FW cy b U ++ SW cy a V) → va_S A s.heap H locs → decode cX2_runOn pc = .ok (.return_, 1) → W p l e (RM 6 141) s m args below meth c H locs 0 0 Q (F0 m pc ls []) := fun H locs pc ls U V h1 h2 h3 h4 h5 => hend H locs pc ls ((U, V)) h1 h2 h3 h4 h5
  have fl_23 := hts (.fieldLink RX2 23 "NoonWells$Script" "orders" "I") (by decide +kernel)
  have inw_X2 := (by decide +kernel : ∀ w ∈ u_ws RX2 TX2 7, w ∈ wsX2_runOn)
  have fl_26 := hts (.fieldLink RX2 26 "NoonWells$Script" "faultAt" "I") (by decide +kernel)
  have fl_29 := hts (.fieldLink RX2 29 "NoonWells$Script" "reason" "I") (by decide +kernel)
  have fl_32 := hts (.fieldLink RX2 32 "NoonWells$Script" "next" "I") (by decide +kernel)
  have fl_19 := hts (.fieldLink RX2 19 "NoonWells$Script" "length" "I") (by decide +kernel)
  have fl_9 := hts (.fieldLink RX2 9 "NoonWells$Script" "signs" "[C") (by decide +kernel)
  have L22 : ∀ (n : Nat), ∀ (y2 : Int32) (U : FV) (V : FV) (H : Heap) (locs : List Loc) (ls : Array Slot), f_X2_runOn_L22 n y2 U V = some (U', V') → va_P D vwCl (FW cy b U ++ SW cy a V) H → va_D A (FW cy b U ++ SW cy a V) → va_S A s.heap H locs → lv_has ls 5 [(0, .ref (a 0)), (1, .ref (b 0)), (2, .int y2)] → W p l e (RM 6 141) s m args below meth c H locs 0 0 Q (F0 m 22 ls []) := by
    intro n
    induction n with
    | zero =>
      intro y2 U V H locs ls hc
      cases hc
    | succ n ih =>
      intro y2 U V H locs ls hc hP hD hS hl
      refine lv_iload_n hx hb dX2_runOn_22 rfl (lv_at hl 2 rfl) ?_
      refine lv_bipush (v := 60) hx hb dX2_runOn_23 (by decide +kernel) ?_
      refine lv_icmp_ge (tgt := 116) hx hb dX2_runOn_25 (by decide) (fun c5 => ?_) (fun c5 => ?_)
      · replace hc := ite_t c5 hc
        exact hend H locs _ _ _ _ (some_one hc) hP hD hS dX2_runOn_116
      · replace hc := ite_f c5 hc
        refine lv_aload_n hx hb dX2_runOn_28 rfl (lv_at hl 0 rfl) ?_
        refine va_get (ci := 2) (v := .int (V 0 1)) (C := RX2) (T := TX2) (N := 7) hx hb hts inw_X2 hown hK.1 hP 25 rfl rfl 3 (by decide) fl_32 (fun _ h9 => h9) rfl dX2_runOn_29 ?_
        refine lv_aload_n hx hb dX2_runOn_32 rfl (lv_at hl 0 rfl) ?_
        refine va_get (ci := 2) (v := .int (V 0 0)) (C := RX2) (T := TX2) (N := 7) hx hb hts inw_X2 hown hK.1 hP 25 rfl rfl 2 (by decide) fl_19 (fun _ h9 => h9) rfl dX2_runOn_33 ?_
        refine lv_icmp_ge (tgt := 116) hx hb dX2_runOn_36 (by decide) (fun c6 => ?_) (fun c6 => ?_)
        · replace hc := ite_t c6 hc
          exact hend H locs _ _ _ _ (some_one hc) hP hD hS dX2_runOn_116
        · replace hc := ite_f c6 hc
          refine lv_aload_n hx hb dX2_runOn_39 rfl (lv_at hl 0 rfl) ?_
          refine lv_aload_n hx hb dX2_runOn_40 rfl (lv_at hl 0 rfl) ?_
          refine va_get (ci := 2) (v := .int (V 0 1)) (C := RX2) (T := TX2) (N := 7) hx hb hts inw_X2 hown hK.1 hP 25 rfl rfl 3 (by decide) fl_32 (fun _ h9 => h9) rfl dX2_runOn_41 ?_
          obtain ⟨V7, eV7, hc⟩ := lt1_some hc
          refine g_put (ci := 2) (C := RX2) (T := TX2) (N := 7) (w' := FW cy b U ++ SW cy a V7) hx hb hts inw_X2 tyX2 tyX2_ok nmX2 hown hK hP hD hS 25 rfl rfl 5 (by decide) fl_26 (fun _ h9 => h9) rfl (by decide +kernel) (Nat.le_of_ble_eq_true rfl) (by rw [← eV7]; rfl) dX2_runOn_44 (fun H locs hP hD hS => ?_)
          refine lv_aload_n hx hb dX2_runOn_47 rfl (lv_at hl 0 rfl) ?_
          refine va_get (ci := 2) (v := .ref (a 1)) (C := RX2) (T := TX2) (N := 7) hx hb hts inw_X2 hown hK.1 hP 25 rfl rfl 0 (by decide) fl_9 (fun _ h9 => h9) rfl dX2_runOn_48 ?_
          refine lv_aload_n hx hb dX2_runOn_51 rfl (lv_at hl 0 rfl) ?_
          refine va_get (ci := 2) (v := .int (V7 0 1)) (C := RX2) (T := TX2) (N := 7) hx hb hts inw_X2 hown hK.1 hP 25 rfl rfl 3 (by decide) fl_32 (fun _ h9 => h9) rfl dX2_runOn_52 ?_
          obtain ⟨x8, hi8, hv8, hc⟩ := rd_some hc
          refine g_cald (x := x8) hx hb hK hP 26 rfl hi8 hv8 dX2_runOn_55 ?_
          refine lv_istore_n (lv' := [(3, .int x8), (0, .ref (a 0)), (1, .ref (b 0)), (2, .int y2)]) hx hb dX2_runOn_56 rfl hl (by decide) rfl (fun ls hl => ?_)
          refine lv_aload_n hx hb dX2_runOn_57 rfl (lv_at hl 1 rfl) ?_
          refine lv_iload_n hx hb dX2_runOn_58 rfl (lv_at hl 0 rfl) ?_
          obtain ⟨x9, V9, hc9, hc⟩ := b2_some hc
          refine gc_VI (n := 1) (q0 := 0) (ci := 2) (w' := FW cy b U ++ SW cy a V9) hx hb hml hown hts hK hP hD hS hA hl.1 ⟨Nat.le_refl _, Nat.le_refl _⟩ (C_X2_readOrder l D cy a V7 x8 x9 V9 hc9) gX2_runOn_X2_readOrder rfl (by decide +kernel) rfl ⟨by decide, by decide⟩ (Jn.perm List.perm_append_comm List.perm_append_comm) rfl rfl rfl (Nat.le_of_ble_eq_true rfl) dX2_runOn_59 (fun H locs hP hD hS => ?_)
          refine lv_if_ne (tgt := 71) hx hb dX2_runOn_62 (by decide) (fun c10 => ?_) (fun c10 => ?_)
          · replace hc := ite_f c10 hc
            refine lv_aload_n hx hb dX2_runOn_71 rfl (lv_at hl 1 rfl) ?_
            refine lv_aload_n hx hb dX2_runOn_72 rfl (lv_at hl 2 rfl) ?_
            refine lv_iload_n hx hb dX2_runOn_73 rfl (lv_at hl 0 rfl) ?_
            obtain ⟨x11, t11, hc11, hc⟩ := b2_some hc
            refine gc_VI (n := 2) (q0 := 25) (ci := 2) (w' := FW cy b t11.1 ++ SW cy a t11.2) hx hb hml hown hts hK hP hD hS hA hl.1 ⟨Nat.le_refl _, Nat.le_refl _⟩ (C_X2_doOrder l D cy a b U V9 x8 x11 t11.1 t11.2 hc11) gX2_runOn_X2_doOrder rfl (by decide +kernel) rfl ⟨by decide, by decide⟩ Jn.same rfl rfl rfl (Nat.le_of_ble_eq_true rfl) dX2_runOn_74 (fun H locs hP hD hS => ?_)
            refine lv_istore (lv' := [(4, .int x11), (3, .int x8), (0, .ref (a 0)), (1, .ref (b 0)), (2, .int y2)]) hx hb dX2_runOn_77 hl (by decide) rfl (fun ls hl => ?_)
            refine lv_iload hx hb dX2_runOn_79 (lv_at hl 0 rfl) ?_
            refine lv_if_ge (tgt := 100) hx hb dX2_runOn_81 (by decide) (fun c12 => ?_) (fun c12 => ?_)
            · replace hc := ite_t c12 hc
              refine lv_aload_n hx hb dX2_runOn_100 rfl (lv_at hl 2 rfl) ?_
              refine lv_dup hx hb dX2_runOn_101 rfl ?_
              refine va_get (ci := 2) (v := .int (t11.2 0 2)) (C := RX2) (T := TX2) (N := 7) hx hb hts inw_X2 hown hK.1 hP 25 rfl rfl 4 (by decide) fl_23 (fun _ h9 => h9) rfl dX2_runOn_102 ?_
              refine lv_iconst (v := 1) hx hb dX2_runOn_105 (by decide) ?_
              refine lv_iadd hx hb dX2_runOn_106 ?_
              obtain ⟨V13, eV13, hc⟩ := lt1_some hc
              refine g_put (ci := 2) (C := RX2) (T := TX2) (N := 7) (w' := FW cy b t11.1 ++ SW cy a V13) hx hb hts inw_X2 tyX2 tyX2_ok nmX2 hown hK hP hD hS 25 rfl rfl 4 (by decide) fl_23 (fun _ h9 => h9) rfl (by decide +kernel) (Nat.le_of_ble_eq_true rfl) (by rw [← eV13]; rfl) dX2_runOn_107 (fun H locs hP hD hS => ?_)
              refine lv_iinc (v := y2 + 1) (lv' := [(2, .int (y2 + 1)), (4, .int x11), (3, .int x8), (0, .ref (a 0)), (1, .ref (b 0))]) hx hb dX2_runOn_110 hl (k := 4) rfl rfl (by decide) rfl (fun ls hl => ?_)
              refine lv_goto (tgt := 22) hx hb dX2_runOn_113 (by decide) ?_
              exact ih (y2 + 1) t11.1 V13 H locs ls hc hP hD hS (lv_sub hl [3, 4, 0] rfl)
            · replace hc := ite_f c12 hc
              refine lv_aload_n hx hb dX2_runOn_84 rfl (lv_at hl 2 rfl) ?_
              refine lv_iload hx hb dX2_runOn_85 (lv_at hl 0 rfl) ?_
              refine lv_iconst (v := (-1)) hx hb dX2_runOn_87 (by decide) ?_
              refine lv_icmp_ne (tgt := 95) hx hb dX2_runOn_88 (by decide) (fun c14 => ?_) (fun c14 => ?_)
              · replace hc := ite_f c14 hc
                refine lv_iconst (v := 3) hx hb dX2_runOn_95 (by decide) ?_
                obtain ⟨V15, eV15, hc⟩ := lt1_some hc
                refine g_put (ci := 2) (C := RX2) (T := TX2) (N := 7) (w' := FW cy b t11.1 ++ SW cy a V15) hx hb hts inw_X2 tyX2 tyX2_ok nmX2 hown hK hP hD hS 25 rfl rfl 6 (by decide) fl_29 (fun _ h9 => h9) rfl (by decide +kernel) (Nat.le_of_ble_eq_true rfl) (by rw [← eV15]; rfl) dX2_runOn_96 (fun H locs hP hD hS => ?_)
                exact hend H locs _ _ _ _ (some_one hc) hP hD hS dX2_runOn_99
              · replace hc := ite_t c14 hc
                refine lv_iconst (v := 2) hx hb dX2_runOn_91 (by decide) ?_
                refine lv_goto (tgt := 96) hx hb dX2_runOn_92 (by decide) ?_
                obtain ⟨V16, eV16, hc⟩ := lt1_some hc
                refine g_put (ci := 2) (C := RX2) (T := TX2) (N := 7) (w' := FW cy b t11.1 ++ SW cy a V16) hx hb hts inw_X2 tyX2 tyX2_ok nmX2 hown hK hP hD hS 25 rfl rfl 6 (by decide) fl_29 (fun _ h9 => h9) rfl (by decide +kernel) (Nat.le_of_ble_eq_true rfl) (by rw [← eV16]; rfl) dX2_runOn_96 (fun H locs hP hD hS => ?_)
                exact hend H locs _ _ _ _ (some_one hc) hP hD hS dX2_runOn_99
          · replace hc := ite_t c10 hc
            refine lv_aload_n hx hb dX2_runOn_65 rfl (lv_at hl 1 rfl) ?_
            refine lv_iconst (v := 1) hx hb dX2_runOn_66 (by decide) ?_
            obtain ⟨V17, eV17, hc⟩ := lt1_some hc
            refine g_put (ci := 2) (C := RX2) (T := TX2) (N := 7) (w' := FW cy b U ++ SW cy a V17) hx hb hts inw_X2 tyX2 tyX2_ok nmX2 hown hK hP hD hS 25 rfl rfl 6 (by decide) fl_29 (fun _ h9 => h9) rfl (by decide +kernel) (Nat.le_of_ble_eq_true rfl) (by rw [← eV17]; rfl) dX2_runOn_67 (fun H locs hP hD hS => ?_)
            exact hend H locs _ _ _ _ (some_one hc) hP hD hS dX2_runOn_70
  obtain ⟨H, hHe⟩ : ∃ H : Heap, H = s.heap := ⟨_, rfl⟩
  obtain ⟨locs, hLe⟩ : ∃ x : List Loc, x = [] := ⟨_, rfl⟩
  have hP : va_P D vwCl (FW cy b U ++ SW cy a V) H := by rw [hHe]; exact hP
  have hS : va_S A s.heap H locs := by rw [hHe, hLe]; exact hS
  have goal0 : W p l e (RM 6 141) s m args below meth c H locs 0 0 Q (F0 m 0 ls []) := by
    refine lv_aload_n hx hb dX2_runOn_0 rfl (lv_at hl 0 rfl) ?_
    refine lv_iconst (v := 0) hx hb dX2_runOn_1 (by decide) ?_
    obtain ⟨V1, eV1, hc⟩ := lt1_some hc
    refine g_put (ci := 2) (C := RX2) (T := TX2) (N := 7) (w' := FW cy b U ++ SW cy a V1) hx hb hts inw_X2 tyX2 tyX2_ok nmX2 hown hK hP hD hS 25 rfl rfl 4 (by decide) fl_23 (fun _ h9 => h9) rfl (by decide +kernel) (Nat.le_of_ble_eq_true rfl) (by rw [← eV1]; rfl) dX2_runOn_2 (fun H locs hP hD hS => ?_)
    refine lv_aload_n hx hb dX2_runOn_5 rfl (lv_at hl 0 rfl) ?_
    refine lv_iconst (v := 0) hx hb dX2_runOn_6 (by decide) ?_
    obtain ⟨V2, eV2, hc⟩ := lt1_some hc
    refine g_put (ci := 2) (C := RX2) (T := TX2) (N := 7) (w' := FW cy b U ++ SW cy a V2) hx hb hts inw_X2 tyX2 tyX2_ok nmX2 hown hK hP hD hS 25 rfl rfl 5 (by decide) fl_26 (fun _ h9 => h9) rfl (by decide +kernel) (Nat.le_of_ble_eq_true rfl) (by rw [← eV2]; rfl) dX2_runOn_7 (fun H locs hP hD hS => ?_)
    refine lv_aload_n hx hb dX2_runOn_10 rfl (lv_at hl 0 rfl) ?_
    refine lv_iconst (v := 0) hx hb dX2_runOn_11 (by decide) ?_
    obtain ⟨V3, eV3, hc⟩ := lt1_some hc
    refine g_put (ci := 2) (C := RX2) (T := TX2) (N := 7) (w' := FW cy b U ++ SW cy a V3) hx hb hts inw_X2 tyX2 tyX2_ok nmX2 hown hK hP hD hS 25 rfl rfl 6 (by decide) fl_29 (fun _ h9 => h9) rfl (by decide +kernel) (Nat.le_of_ble_eq_true rfl) (by rw [← eV3]; rfl) dX2_runOn_12 (fun H locs hP hD hS => ?_)
    refine lv_aload_n hx hb dX2_runOn_15 rfl (lv_at hl 0 rfl) ?_
    refine lv_iconst (v := 0) hx hb dX2_runOn_16 (by decide) ?_
    obtain ⟨V4, eV4, hc⟩ := lt1_some hc
    refine g_put (ci := 2) (C := RX2) (T := TX2) (N := 7) (w' := FW cy b U ++ SW cy a V4) hx hb hts inw_X2 tyX2 tyX2_ok nmX2 hown hK hP hD hS 25 rfl rfl 3 (by decide) fl_32 (fun _ h9 => h9) rfl (by decide +kernel) (Nat.le_of_ble_eq_true rfl) (by rw [← eV4]; rfl) dX2_runOn_17 (fun H locs hP hD hS => ?_)
    refine lv_iconst (v := 0) hx hb dX2_runOn_20 (by decide) ?_
    refine lv_istore_n (lv' := [(2, .int 0), (0, .ref (a 0)), (1, .ref (b 0))]) hx hb dX2_runOn_21 rfl hl (by decide) rfl (fun ls hl => ?_)
    exact L22 FUEL 0 U V4 H locs ls hc hP hD hS (lv_sub hl [1, 2, 0] rfl)
  rw [hHe, hLe] at goal0
  exact goal0
