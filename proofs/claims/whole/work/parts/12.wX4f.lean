set_option maxHeartbeats 4000000 in
set_option maxRecDepth 100000 in
theorem C_X4_type (l : Launch) (D : va_G) (cy : Nat → ClassId) (a : Nat → Nat) (V : FV) (p1 : Int32) (r : Int32) (V' : FV) (hc : f_X4_type V p1 = some (r, V')) : ConI l yX4_type wsX4_type 1 22 D cy (MW cy a) [.ref (a 0), .int p1] V V' r := by
  refine bodyI (cc := cX4_type) (maxL := 2) (ty := .int) (by decide +kernel) rfl (Nat.le_of_ble_eq_true rfl) ?_
  intro p e s m args below meth c A Q hx hb hml hts hown hK hP hD hA hS hend ls hl
  have hown : s.vm.findClass RX4 = some m.cls := hown
  have hP : va_P D vwCl (MW cy a V) s.heap := hP
  have hD : va_D A (MW cy a V) := hD
  have hl : lv_has ls 2 [(0, .ref (a 0)), (1, .int p1)] := hl
  have hend : ∀ (H : Heap) (locs : List Loc) (pc : Nat) (ls : Array Slot) (v : Int32) (V : FV), v = r → V = V' → narrow .int (.int v) = .int v → va_P D vwCl (MW cy a V) H → va_D A (MW cy a V) → va_S A s.heap H locs → decode cX4_type pc = .ok (.ireturn, 1) → W p l e (RM 1 22) s m args below meth c H locs 0 0 Q (F0 m pc ls [.int v]) := fun H locs pc ls v V h1 h2 h3 h4 h5 h6 h7 => hend H locs pc ls v V h1 h2 h3 h4 h5 h6 h7
  have fl_131 := hts (.fieldLink RX4 131 "NoonWellsModel" "letters" "I") (by decide +kernel)
  have inw_X4 := (by decide +kernel : ∀ w ∈ u_ws RX4 TX4 12, w ∈ wsX4_type)
  have fl_19 := hts (.fieldLink RX4 19 "NoonWellsModel" "text" "[I") (by decide +kernel)
  obtain ⟨H, hHe⟩ : ∃ H : Heap, H = s.heap := ⟨_, rfl⟩
  obtain ⟨locs, hLe⟩ : ∃ x : List Loc, x = [] := ⟨_, rfl⟩
  have hP : va_P D vwCl (MW cy a V) H := by rw [hHe]; exact hP
  have hS : va_S A s.heap H locs := by rw [hHe, hLe]; exact hS
  have goal0 : W p l e (RM 1 22) s m args below meth c H locs 0 0 Q (F0 m 0 ls []) := by
    refine lv_iload_n hx hb dX4_type_0 rfl (lv_at hl 1 rfl) ?_
    refine lv_bipush (v := 32) hx hb dX4_type_1 (by decide +kernel) ?_
    refine lv_bipush (v := 126) hx hb dX4_type_3 (by decide +kernel) ?_
    obtain ⟨x1, hc1, hc⟩ := b1_some hc
    refine gc_SI (n := 3) (w' := MW cy a V) hx hb hml hown hts hK hP hD hS hA hl.1 ⟨Nat.le_refl _, Nat.le_refl _⟩ (C_X4_in l D cy p1 32 126 x1 hc1) gX4_type_X4_in rfl (by decide +kernel) rfl ⟨by decide, by decide⟩ Jn.none rfl (Nat.le_of_ble_eq_true rfl) dX4_type_5 (fun H locs hP hD hS => ?_)
    refine lv_if_ne (tgt := 13) hx hb dX4_type_8 (by decide) (fun c2 => ?_) (fun c2 => ?_)
    · replace hc := ite_f c2 hc
      refine lv_aload_n hx hb dX4_type_13 rfl (lv_at hl 0 rfl) ?_
      refine va_get (ci := 4) (v := .int (V 0 2)) (C := RX4) (T := TX4) (N := 12) hx hb hts inw_X4 hown hK.1 hP 0 rfl rfl 6 (by decide) fl_131 (fun _ h9 => h9) rfl dX4_type_14 ?_
      refine lv_bipush (v := 60) hx hb dX4_type_17 (by decide +kernel) ?_
      refine lv_icmp_ne (tgt := 25) hx hb dX4_type_19 (by decide) (fun c3 => ?_) (fun c3 => ?_)
      · replace hc := ite_f c3 hc
        refine lv_aload_n hx hb dX4_type_25 rfl (lv_at hl 0 rfl) ?_
        refine va_get (ci := 4) (v := .ref (a 4)) (C := RX4) (T := TX4) (N := 12) hx hb hts inw_X4 hown hK.1 hP 0 rfl rfl 3 (by decide) fl_19 (fun _ h9 => h9) rfl dX4_type_26 ?_
        refine lv_aload_n hx hb dX4_type_29 rfl (lv_at hl 0 rfl) ?_
        refine va_get (ci := 4) (v := .int (V 0 2)) (C := RX4) (T := TX4) (N := 12) hx hb hts inw_X4 hown hK.1 hP 0 rfl rfl 6 (by decide) fl_131 (fun _ h9 => h9) rfl dX4_type_30 ?_
        refine lv_iload_n hx hb dX4_type_33 rfl (lv_at hl 1 rfl) ?_
        obtain ⟨V4, hi4, eV4, hc⟩ := wr_some hc
        refine g_iast (w' := MW cy a V4) hx hb hK hP hD hS 4 rfl hi4 (by rw [← eV4]; rfl) dX4_type_34 (fun H locs hP hD hS => ?_)
        refine lv_aload_n hx hb dX4_type_35 rfl (lv_at hl 0 rfl) ?_
        refine lv_dup hx hb dX4_type_36 rfl ?_
        refine va_get (ci := 4) (v := .int (V4 0 2)) (C := RX4) (T := TX4) (N := 12) hx hb hts inw_X4 hown hK.1 hP 0 rfl rfl 6 (by decide) fl_131 (fun _ h9 => h9) rfl dX4_type_37 ?_
        refine lv_iconst (v := 1) hx hb dX4_type_40 (by decide) ?_
        refine lv_iadd hx hb dX4_type_41 ?_
        obtain ⟨V5, eV5, hc⟩ := lt1_some hc
        refine g_put (ci := 4) (C := RX4) (T := TX4) (N := 12) (w' := MW cy a V5) hx hb hts inw_X4 tyX4 tyX4_ok nmX4 hown hK hP hD hS 0 rfl rfl 6 (by decide) fl_131 (fun _ h9 => h9) rfl (by decide +kernel) (Nat.le_of_ble_eq_true rfl) (by rw [← eV5]; rfl) dX4_type_42 (fun H locs hP hD hS => ?_)
        refine lv_aload_n hx hb dX4_type_45 rfl (lv_at hl 0 rfl) ?_
        refine va_get (ci := 4) (v := .int (V5 0 2)) (C := RX4) (T := TX4) (N := 12) hx hb hts inw_X4 hown hK.1 hP 0 rfl rfl 6 (by decide) fl_131 (fun _ h9 => h9) rfl dX4_type_46 ?_
        exact hend H locs _ _ _ _ (some_fst hc) (some_snd hc) rfl hP hD hS dX4_type_49
      · replace hc := ite_t c3 hc
        refine lv_bipush (v := (-3)) hx hb dX4_type_22 (by decide +kernel) ?_
        exact hend H locs _ _ _ _ (some_fst hc) (some_snd hc) rfl hP hD hS dX4_type_24
    · replace hc := ite_t c2 hc
      refine lv_iconst (v := (-1)) hx hb dX4_type_11 (by decide) ?_
      exact hend H locs _ _ _ _ (some_fst hc) (some_snd hc) rfl hP hD hS dX4_type_12
  rw [hHe, hLe] at goal0
  exact goal0
set_option maxHeartbeats 4000000 in
set_option maxRecDepth 100000 in
theorem C_X4_clearText (l : Launch) (D : va_G) (cy : Nat → ClassId) (a : Nat → Nat) (V : FV) (r : Int32) (V' : FV) (hc : f_X4_clearText V = some (r, V')) : ConI l yX4_clearText wsX4_clearText 0 0 D cy (MW cy a) [.ref (a 0)] V V' r := by
  refine bodyI (cc := cX4_clearText) (maxL := 2) (ty := .int) (by decide +kernel) rfl (Nat.le_of_ble_eq_true rfl) ?_
  intro p e s m args below meth c A Q hx hb hml hts hown hK hP hD hA hS hend ls hl
  have hown : s.vm.findClass RX4 = some m.cls := hown
  have hP : va_P D vwCl (MW cy a V) s.heap := hP
  have hD : va_D A (MW cy a V) := hD
  have hl : lv_has ls 2 [(0, .ref (a 0))] := hl
  have hend : ∀ (H : Heap) (locs : List Loc) (pc : Nat) (ls : Array Slot) (v : Int32) (V : FV), v = r → V = V' → narrow .int (.int v) = .int v → va_P D vwCl (MW cy a V) H → va_D A (MW cy a V) → va_S A s.heap H locs → decode cX4_clearText pc = .ok (.ireturn, 1) → W p l e (RM 0 0) s m args below meth c H locs 0 0 Q (F0 m pc ls [.int v]) := fun H locs pc ls v V h1 h2 h3 h4 h5 h6 h7 => hend H locs pc ls v V h1 h2 h3 h4 h5 h6 h7
  have fl_131 := hts (.fieldLink RX4 131 "NoonWellsModel" "letters" "I") (by decide +kernel)
  have inw_X4 := (by decide +kernel : ∀ w ∈ u_ws RX4 TX4 12, w ∈ wsX4_clearText)
  obtain ⟨H, hHe⟩ : ∃ H : Heap, H = s.heap := ⟨_, rfl⟩
  obtain ⟨locs, hLe⟩ : ∃ x : List Loc, x = [] := ⟨_, rfl⟩
  have hP : va_P D vwCl (MW cy a V) H := by rw [hHe]; exact hP
  have hS : va_S A s.heap H locs := by rw [hHe, hLe]; exact hS
  have goal0 : W p l e (RM 0 0) s m args below meth c H locs 0 0 Q (F0 m 0 ls []) := by
    refine lv_aload_n hx hb dX4_clearText_0 rfl (lv_at hl 0 rfl) ?_
    refine va_get (ci := 4) (v := .int (V 0 2)) (C := RX4) (T := TX4) (N := 12) hx hb hts inw_X4 hown hK.1 hP 0 rfl rfl 6 (by decide) fl_131 (fun _ h9 => h9) rfl dX4_clearText_1 ?_
    refine lv_istore_n (lv' := [(1, .int (V 0 2)), (0, .ref (a 0))]) hx hb dX4_clearText_4 rfl hl (by decide) rfl (fun ls hl => ?_)
    refine lv_aload_n hx hb dX4_clearText_5 rfl (lv_at hl 1 rfl) ?_
    refine lv_iconst (v := 0) hx hb dX4_clearText_6 (by decide) ?_
    obtain ⟨V1, eV1, hc⟩ := lt1_some hc
    refine g_put (ci := 4) (C := RX4) (T := TX4) (N := 12) (w' := MW cy a V1) hx hb hts inw_X4 tyX4 tyX4_ok nmX4 hown hK hP hD hS 0 rfl rfl 6 (by decide) fl_131 (fun _ h9 => h9) rfl (by decide +kernel) (Nat.le_of_ble_eq_true rfl) (by rw [← eV1]; rfl) dX4_clearText_7 (fun H locs hP hD hS => ?_)
    refine lv_iload_n hx hb dX4_clearText_10 rfl (lv_at hl 0 rfl) ?_
    exact hend H locs _ _ _ _ (some_fst hc) (some_snd hc) rfl hP hD hS dX4_clearText_11
  rw [hHe, hLe] at goal0
  exact goal0
set_option maxHeartbeats 4000000 in
set_option maxRecDepth 100000 in
theorem C_X4_reads (l : Launch) (D : va_G) (cy : Nat → ClassId) (a : Nat → Nat) (V : FV) (p1 : Int32) (r : Int32) (V' : FV) (hc : f_X4_reads V p1 = some (r, V')) : ConI l yX4_reads wsX4_reads 1 22 D cy (MW cy a) [.ref (a 0), .int p1] V V' r := by
  refine bodyI (cc := cX4_reads) (maxL := 4) (ty := .boolean) (by decide +kernel) rfl (Nat.le_of_ble_eq_true rfl) ?_
  intro p e s m args below meth c A Q hx hb hml hts hown hK hP hD hA hS hend ls hl
  have hown : s.vm.findClass RX4 = some m.cls := hown
  have hP : va_P D vwCl (MW cy a V) s.heap := hP
  have hD : va_D A (MW cy a V) := hD
  have hl : lv_has ls 4 [(0, .ref (a 0)), (1, .int p1)] := hl
  have hend : ∀ (H : Heap) (locs : List Loc) (pc : Nat) (ls : Array Slot) (v : Int32) (V : FV), v = r → V = V' → narrow .boolean (.int v) = .int v → va_P D vwCl (MW cy a V) H → va_D A (MW cy a V) → va_S A s.heap H locs → decode cX4_reads pc = .ok (.ireturn, 1) → W p l e (RM 1 22) s m args below meth c H locs 0 0 Q (F0 m pc ls [.int v]) := fun H locs pc ls v V h1 h2 h3 h4 h5 h6 h7 => hend H locs pc ls v V h1 h2 h3 h4 h5 h6 h7
  have fl_22 := hts (.fieldLink RX4 22 "NoonWellsModel" "numbers" "[I") (by decide +kernel)
  have inw_X4 := (by decide +kernel : ∀ w ∈ u_ws RX4 TX4 12, w ∈ wsX4_reads)
  have fl_134 := hts (.fieldLink RX4 134 "NoonWellsModel" "readAt" "I") (by decide +kernel)
  have L16 : ∀ (k2 : Int32 → Int32 → FV → Option (Int32 × FV)) (hk2 : ∀ (y1 y2 : Int32) (V : FV) (H : Heap) (locs : List Loc) (ls : Array Slot), k2 y1 y2 V = some (r, V') → va_P D vwCl (MW cy a V) H → va_D A (MW cy a V) → va_S A s.heap H locs → lv_has ls 4 [(0, .ref (a 0)), (1, .int y1), (2, .int y2)] → W p l e (RM 1 22) s m args below meth c H locs 0 0 Q (F0 m 2 ls [])) (n : Nat), ∀ (y1 y2 y3 : Int32) (V : FV) (H : Heap) (locs : List Loc) (ls : Array Slot), f_X4_reads_L16 k2 n y1 y2 y3 V = some (r, V') → va_P D vwCl (MW cy a V) H → va_D A (MW cy a V) → va_S A s.heap H locs → lv_has ls 4 [(0, .ref (a 0)), (1, .int y1), (2, .int y2), (3, .int y3)] → W p l e (RM 1 22) s m args below meth c H locs 0 0 Q (F0 m 16 ls []) := by
    intro k2 hk2 n
    induction n with
    | zero =>
      intro y1 y2 y3 V H locs ls hc
      cases hc
    | succ n ih =>
      intro y1 y2 y3 V H locs ls hc hP hD hS hl
      refine lv_iload_n hx hb dX4_reads_16 rfl (lv_at hl 3 rfl) ?_
      refine lv_iconst (v := 3) hx hb dX4_reads_17 (by decide) ?_
      refine lv_icmp_ge (tgt := 74) hx hb dX4_reads_18 (by decide) (fun c3 => ?_) (fun c3 => ?_)
      · replace hc := ite_t c3 hc
        refine lv_iload_n hx hb dX4_reads_74 rfl (lv_at hl 3 rfl) ?_
        refine lv_if_eq (tgt := 99) hx hb dX4_reads_75 (by decide) (fun c4 => ?_) (fun c4 => ?_)
        · replace hc := ite_t c4 hc
          refine lv_iconst (v := 0) hx hb dX4_reads_99 (by decide) ?_
          exact hend H locs _ _ _ _ (some_fst hc) (some_snd hc) rfl hP hD hS dX4_reads_100
        · replace hc := ite_f c4 hc
          refine lv_aload_n hx hb dX4_reads_78 rfl (lv_at hl 0 rfl) ?_
          obtain ⟨x5, hc5, hc⟩ := b1_some hc
          refine gc_VI (n := 0) (q0 := 0) (ci := 4) (w' := MW cy a V) hx hb hml hown hts hK hP hD hS hA hl.1 ⟨Nat.le_refl _, Nat.le_refl _⟩ (C_X4_here l D cy a V x5 hc5) gX4_reads_X4_here rfl (by decide +kernel) rfl ⟨by decide, by decide⟩ Jn.same rfl rfl rfl (Nat.le_of_ble_eq_true rfl) dX4_reads_79 (fun H locs hP hD hS => ?_)
          refine lv_iload_n hx hb dX4_reads_82 rfl (lv_at hl 2 rfl) ?_
          refine lv_iload_n hx hb dX4_reads_83 rfl (lv_at hl 1 rfl) ?_
          refine lv_iconst (v := 1) hx hb dX4_reads_84 (by decide) ?_
          refine lv_isub hx hb dX4_reads_85 ?_
          refine lv_icmp_ne (tgt := 94) hx hb dX4_reads_86 (by decide) (fun c6 => ?_) (fun c6 => ?_)
          · replace hc := ite_f c6 hc
            refine lv_bipush (v := 44) hx hb dX4_reads_94 (by decide +kernel) ?_
            refine lv_icmp_eq (tgt := 101) hx hb dX4_reads_96 (by decide) (fun c7 => ?_) (fun c7 => ?_)
            · replace hc := ite_t c7 hc
              refine lv_aload_n hx hb dX4_reads_101 rfl (lv_at hl 0 rfl) ?_
              refine lv_dup hx hb dX4_reads_102 rfl ?_
              refine va_get (ci := 4) (v := .int (V 0 3)) (C := RX4) (T := TX4) (N := 12) hx hb hts inw_X4 hown hK.1 hP 0 rfl rfl 7 (by decide) fl_134 (fun _ h9 => h9) rfl dX4_reads_103 ?_
              refine lv_iconst (v := 1) hx hb dX4_reads_106 (by decide) ?_
              refine lv_iadd hx hb dX4_reads_107 ?_
              obtain ⟨V8, eV8, hc⟩ := lt1_some hc
              refine g_put (ci := 4) (C := RX4) (T := TX4) (N := 12) (w' := MW cy a V8) hx hb hts inw_X4 tyX4 tyX4_ok nmX4 hown hK hP hD hS 0 rfl rfl 7 (by decide) fl_134 (fun _ h9 => h9) rfl (by decide +kernel) (Nat.le_of_ble_eq_true rfl) (by rw [← eV8]; rfl) dX4_reads_108 (fun H locs hP hD hS => ?_)
              refine lv_iinc (v := y2 + 1) (lv' := [(2, .int (y2 + 1)), (0, .ref (a 0)), (1, .int y1), (3, .int y3)]) hx hb dX4_reads_111 hl (k := 2) rfl rfl (by decide) rfl (fun ls hl => ?_)
              refine lv_goto (tgt := 2) hx hb dX4_reads_114 (by decide) ?_
              exact hk2 y1 (y2 + 1) V8 H locs ls hc hP hD hS (lv_sub hl [1, 2, 0] rfl)
            · replace hc := ite_f c7 hc
              refine lv_iconst (v := 0) hx hb dX4_reads_99 (by decide) ?_
              exact hend H locs _ _ _ _ (some_fst hc) (some_snd hc) rfl hP hD hS dX4_reads_100
          · replace hc := ite_t c6 hc
            refine lv_bipush (v := 59) hx hb dX4_reads_89 (by decide +kernel) ?_
            refine lv_goto (tgt := 96) hx hb dX4_reads_91 (by decide) ?_
            refine lv_icmp_eq (tgt := 101) hx hb dX4_reads_96 (by decide) (fun c9 => ?_) (fun c9 => ?_)
            · replace hc := ite_t c9 hc
              refine lv_aload_n hx hb dX4_reads_101 rfl (lv_at hl 0 rfl) ?_
              refine lv_dup hx hb dX4_reads_102 rfl ?_
              refine va_get (ci := 4) (v := .int (V 0 3)) (C := RX4) (T := TX4) (N := 12) hx hb hts inw_X4 hown hK.1 hP 0 rfl rfl 7 (by decide) fl_134 (fun _ h9 => h9) rfl dX4_reads_103 ?_
              refine lv_iconst (v := 1) hx hb dX4_reads_106 (by decide) ?_
              refine lv_iadd hx hb dX4_reads_107 ?_
              obtain ⟨V10, eV10, hc⟩ := lt1_some hc
              refine g_put (ci := 4) (C := RX4) (T := TX4) (N := 12) (w' := MW cy a V10) hx hb hts inw_X4 tyX4 tyX4_ok nmX4 hown hK hP hD hS 0 rfl rfl 7 (by decide) fl_134 (fun _ h9 => h9) rfl (by decide +kernel) (Nat.le_of_ble_eq_true rfl) (by rw [← eV10]; rfl) dX4_reads_108 (fun H locs hP hD hS => ?_)
              refine lv_iinc (v := y2 + 1) (lv' := [(2, .int (y2 + 1)), (0, .ref (a 0)), (1, .int y1), (3, .int y3)]) hx hb dX4_reads_111 hl (k := 2) rfl rfl (by decide) rfl (fun ls hl => ?_)
              refine lv_goto (tgt := 2) hx hb dX4_reads_114 (by decide) ?_
              exact hk2 y1 (y2 + 1) V10 H locs ls hc hP hD hS (lv_sub hl [1, 2, 0] rfl)
            · replace hc := ite_f c9 hc
              refine lv_iconst (v := 0) hx hb dX4_reads_99 (by decide) ?_
              exact hend H locs _ _ _ _ (some_fst hc) (some_snd hc) rfl hP hD hS dX4_reads_100
      · replace hc := ite_f c3 hc
        refine lv_aload_n hx hb dX4_reads_21 rfl (lv_at hl 0 rfl) ?_
        obtain ⟨x11, hc11, hc⟩ := b1_some hc
        refine gc_VI (n := 0) (q0 := 0) (ci := 4) (w' := MW cy a V) hx hb hml hown hts hK hP hD hS hA hl.1 ⟨Nat.le_refl _, Nat.le_refl _⟩ (C_X4_here l D cy a V x11 hc11) gX4_reads_X4_here rfl (by decide +kernel) rfl ⟨by decide, by decide⟩ Jn.same rfl rfl rfl (Nat.le_of_ble_eq_true rfl) dX4_reads_22 (fun H locs hP hD hS => ?_)
        refine lv_bipush (v := 48) hx hb dX4_reads_25 (by decide +kernel) ?_
        refine lv_bipush (v := 57) hx hb dX4_reads_27 (by decide +kernel) ?_
        obtain ⟨x12, hc12, hc⟩ := b1_some hc
        refine gc_SI (n := 3) (w' := MW cy a V) hx hb hml hown hts hK hP hD hS hA hl.1 ⟨Nat.le_refl _, Nat.le_refl _⟩ (C_X4_in l D cy x11 48 57 x12 hc12) gX4_reads_X4_in rfl (by decide +kernel) rfl ⟨by decide, by decide⟩ Jn.none rfl (Nat.le_of_ble_eq_true rfl) dX4_reads_29 (fun H locs hP hD hS => ?_)
        refine lv_if_eq (tgt := 74) hx hb dX4_reads_32 (by decide) (fun c13 => ?_) (fun c13 => ?_)
        · replace hc := ite_t c13 hc
          refine lv_iload_n hx hb dX4_reads_74 rfl (lv_at hl 3 rfl) ?_
          refine lv_if_eq (tgt := 99) hx hb dX4_reads_75 (by decide) (fun c14 => ?_) (fun c14 => ?_)
          · replace hc := ite_t c14 hc
            refine lv_iconst (v := 0) hx hb dX4_reads_99 (by decide) ?_
            exact hend H locs _ _ _ _ (some_fst hc) (some_snd hc) rfl hP hD hS dX4_reads_100
          · replace hc := ite_f c14 hc
            refine lv_aload_n hx hb dX4_reads_78 rfl (lv_at hl 0 rfl) ?_
            obtain ⟨x15, hc15, hc⟩ := b1_some hc
            refine gc_VI (n := 0) (q0 := 0) (ci := 4) (w' := MW cy a V) hx hb hml hown hts hK hP hD hS hA hl.1 ⟨Nat.le_refl _, Nat.le_refl _⟩ (C_X4_here l D cy a V x15 hc15) gX4_reads_X4_here rfl (by decide +kernel) rfl ⟨by decide, by decide⟩ Jn.same rfl rfl rfl (Nat.le_of_ble_eq_true rfl) dX4_reads_79 (fun H locs hP hD hS => ?_)
            refine lv_iload_n hx hb dX4_reads_82 rfl (lv_at hl 2 rfl) ?_
            refine lv_iload_n hx hb dX4_reads_83 rfl (lv_at hl 1 rfl) ?_
            refine lv_iconst (v := 1) hx hb dX4_reads_84 (by decide) ?_
            refine lv_isub hx hb dX4_reads_85 ?_
            refine lv_icmp_ne (tgt := 94) hx hb dX4_reads_86 (by decide) (fun c16 => ?_) (fun c16 => ?_)
            · replace hc := ite_f c16 hc
              refine lv_bipush (v := 44) hx hb dX4_reads_94 (by decide +kernel) ?_
              refine lv_icmp_eq (tgt := 101) hx hb dX4_reads_96 (by decide) (fun c17 => ?_) (fun c17 => ?_)
              · replace hc := ite_t c17 hc
                refine lv_aload_n hx hb dX4_reads_101 rfl (lv_at hl 0 rfl) ?_
                refine lv_dup hx hb dX4_reads_102 rfl ?_
                refine va_get (ci := 4) (v := .int (V 0 3)) (C := RX4) (T := TX4) (N := 12) hx hb hts inw_X4 hown hK.1 hP 0 rfl rfl 7 (by decide) fl_134 (fun _ h9 => h9) rfl dX4_reads_103 ?_
                refine lv_iconst (v := 1) hx hb dX4_reads_106 (by decide) ?_
                refine lv_iadd hx hb dX4_reads_107 ?_
                obtain ⟨V18, eV18, hc⟩ := lt1_some hc
                refine g_put (ci := 4) (C := RX4) (T := TX4) (N := 12) (w' := MW cy a V18) hx hb hts inw_X4 tyX4 tyX4_ok nmX4 hown hK hP hD hS 0 rfl rfl 7 (by decide) fl_134 (fun _ h9 => h9) rfl (by decide +kernel) (Nat.le_of_ble_eq_true rfl) (by rw [← eV18]; rfl) dX4_reads_108 (fun H locs hP hD hS => ?_)
                refine lv_iinc (v := y2 + 1) (lv' := [(2, .int (y2 + 1)), (0, .ref (a 0)), (1, .int y1), (3, .int y3)]) hx hb dX4_reads_111 hl (k := 2) rfl rfl (by decide) rfl (fun ls hl => ?_)
                refine lv_goto (tgt := 2) hx hb dX4_reads_114 (by decide) ?_
                exact hk2 y1 (y2 + 1) V18 H locs ls hc hP hD hS (lv_sub hl [1, 2, 0] rfl)
              · replace hc := ite_f c17 hc
                refine lv_iconst (v := 0) hx hb dX4_reads_99 (by decide) ?_
                exact hend H locs _ _ _ _ (some_fst hc) (some_snd hc) rfl hP hD hS dX4_reads_100
            · replace hc := ite_t c16 hc
              refine lv_bipush (v := 59) hx hb dX4_reads_89 (by decide +kernel) ?_
              refine lv_goto (tgt := 96) hx hb dX4_reads_91 (by decide) ?_
              refine lv_icmp_eq (tgt := 101) hx hb dX4_reads_96 (by decide) (fun c19 => ?_) (fun c19 => ?_)
              · replace hc := ite_t c19 hc
                refine lv_aload_n hx hb dX4_reads_101 rfl (lv_at hl 0 rfl) ?_
                refine lv_dup hx hb dX4_reads_102 rfl ?_
                refine va_get (ci := 4) (v := .int (V 0 3)) (C := RX4) (T := TX4) (N := 12) hx hb hts inw_X4 hown hK.1 hP 0 rfl rfl 7 (by decide) fl_134 (fun _ h9 => h9) rfl dX4_reads_103 ?_
                refine lv_iconst (v := 1) hx hb dX4_reads_106 (by decide) ?_
                refine lv_iadd hx hb dX4_reads_107 ?_
                obtain ⟨V20, eV20, hc⟩ := lt1_some hc
                refine g_put (ci := 4) (C := RX4) (T := TX4) (N := 12) (w' := MW cy a V20) hx hb hts inw_X4 tyX4 tyX4_ok nmX4 hown hK hP hD hS 0 rfl rfl 7 (by decide) fl_134 (fun _ h9 => h9) rfl (by decide +kernel) (Nat.le_of_ble_eq_true rfl) (by rw [← eV20]; rfl) dX4_reads_108 (fun H locs hP hD hS => ?_)
                refine lv_iinc (v := y2 + 1) (lv' := [(2, .int (y2 + 1)), (0, .ref (a 0)), (1, .int y1), (3, .int y3)]) hx hb dX4_reads_111 hl (k := 2) rfl rfl (by decide) rfl (fun ls hl => ?_)
                refine lv_goto (tgt := 2) hx hb dX4_reads_114 (by decide) ?_
                exact hk2 y1 (y2 + 1) V20 H locs ls hc hP hD hS (lv_sub hl [1, 2, 0] rfl)
              · replace hc := ite_f c19 hc
                refine lv_iconst (v := 0) hx hb dX4_reads_99 (by decide) ?_
                exact hend H locs _ _ _ _ (some_fst hc) (some_snd hc) rfl hP hD hS dX4_reads_100
        · replace hc := ite_f c13 hc
          refine lv_aload_n hx hb dX4_reads_35 rfl (lv_at hl 0 rfl) ?_
          refine va_get (ci := 4) (v := .ref (a 5)) (C := RX4) (T := TX4) (N := 12) hx hb hts inw_X4 hown hK.1 hP 0 rfl rfl 9 (by decide) fl_22 (fun _ h9 => h9) rfl dX4_reads_36 ?_
          refine lv_iload_n hx hb dX4_reads_39 rfl (lv_at hl 2 rfl) ?_
          refine lv_bipush (v := 10) hx hb dX4_reads_40 (by decide +kernel) ?_
          refine lv_aload_n hx hb dX4_reads_42 rfl (lv_at hl 0 rfl) ?_
          refine va_get (ci := 4) (v := .ref (a 5)) (C := RX4) (T := TX4) (N := 12) hx hb hts inw_X4 hown hK.1 hP 0 rfl rfl 9 (by decide) fl_22 (fun _ h9 => h9) rfl dX4_reads_43 ?_
          refine lv_iload_n hx hb dX4_reads_46 rfl (lv_at hl 2 rfl) ?_
          obtain ⟨x21, hi21, hv21, hc⟩ := rd_some hc
          refine g_iald (x := x21) hx hb hK hP 5 rfl hi21 hv21 dX4_reads_47 ?_
          refine lv_imul hx hb dX4_reads_48 ?_
          refine lv_aload_n hx hb dX4_reads_49 rfl (lv_at hl 0 rfl) ?_
          obtain ⟨x22, hc22, hc⟩ := b1_some hc
          refine gc_VI (n := 0) (q0 := 0) (ci := 4) (w' := MW cy a V) hx hb hml hown hts hK hP hD hS hA hl.1 ⟨Nat.le_refl _, Nat.le_refl _⟩ (C_X4_here l D cy a V x22 hc22) gX4_reads_X4_here rfl (by decide +kernel) rfl ⟨by decide, by decide⟩ Jn.same rfl rfl rfl (Nat.le_of_ble_eq_true rfl) dX4_reads_50 (fun H locs hP hD hS => ?_)
          refine lv_iadd hx hb dX4_reads_53 ?_
          refine lv_bipush (v := 48) hx hb dX4_reads_54 (by decide +kernel) ?_
          refine lv_isub hx hb dX4_reads_56 ?_
          obtain ⟨V23, hi23, eV23, hc⟩ := wr_some hc
          refine g_iast (w' := MW cy a V23) hx hb hK hP hD hS 5 rfl hi23 (by rw [← eV23]; rfl) dX4_reads_57 (fun H locs hP hD hS => ?_)
          refine lv_aload_n hx hb dX4_reads_58 rfl (lv_at hl 0 rfl) ?_
          refine lv_dup hx hb dX4_reads_59 rfl ?_
          refine va_get (ci := 4) (v := .int (V23 0 3)) (C := RX4) (T := TX4) (N := 12) hx hb hts inw_X4 hown hK.1 hP 0 rfl rfl 7 (by decide) fl_134 (fun _ h9 => h9) rfl dX4_reads_60 ?_
          refine lv_iconst (v := 1) hx hb dX4_reads_63 (by decide) ?_
          refine lv_iadd hx hb dX4_reads_64 ?_
          obtain ⟨V24, eV24, hc⟩ := lt1_some hc
          refine g_put (ci := 4) (C := RX4) (T := TX4) (N := 12) (w' := MW cy a V24) hx hb hts inw_X4 tyX4 tyX4_ok nmX4 hown hK hP hD hS 0 rfl rfl 7 (by decide) fl_134 (fun _ h9 => h9) rfl (by decide +kernel) (Nat.le_of_ble_eq_true rfl) (by rw [← eV24]; rfl) dX4_reads_65 (fun H locs hP hD hS => ?_)
          refine lv_iinc (v := y3 + 1) (lv' := [(3, .int (y3 + 1)), (0, .ref (a 0)), (1, .int y1), (2, .int y2)]) hx hb dX4_reads_68 hl (k := 3) rfl rfl (by decide) rfl (fun ls hl => ?_)
          refine lv_goto (tgt := 16) hx hb dX4_reads_71 (by decide) ?_
          exact ih y1 y2 (y3 + 1) V24 H locs ls hc hP hD hS (lv_sub hl [1, 2, 3, 0] rfl)
  have L2 : ∀ (n : Nat), ∀ (y1 y2 : Int32) (V : FV) (H : Heap) (locs : List Loc) (ls : Array Slot), f_X4_reads_L2 n y1 y2 V = some (r, V') → va_P D vwCl (MW cy a V) H → va_D A (MW cy a V) → va_S A s.heap H locs → lv_has ls 4 [(0, .ref (a 0)), (1, .int y1), (2, .int y2)] → W p l e (RM 1 22) s m args below meth c H locs 0 0 Q (F0 m 2 ls []) := by
    intro n
    induction n with
    | zero =>
      intro y1 y2 V H locs ls hc
      cases hc
    | succ n ih =>
      intro y1 y2 V H locs ls hc hP hD hS hl
      refine lv_iload_n hx hb dX4_reads_2 rfl (lv_at hl 2 rfl) ?_
      refine lv_iload_n hx hb dX4_reads_3 rfl (lv_at hl 1 rfl) ?_
      refine lv_icmp_ge (tgt := 117) hx hb dX4_reads_4 (by decide) (fun c1 => ?_) (fun c1 => ?_)
      · replace hc := ite_t c1 hc
        refine lv_iconst (v := 1) hx hb dX4_reads_117 (by decide) ?_
        exact hend H locs _ _ _ _ (some_fst hc) (some_snd hc) rfl hP hD hS dX4_reads_118
      · replace hc := ite_f c1 hc
        refine lv_iconst (v := 0) hx hb dX4_reads_7 (by decide) ?_
        refine lv_istore_n (lv' := [(3, .int 0), (0, .ref (a 0)), (1, .int y1), (2, .int y2)]) hx hb dX4_reads_8 rfl hl (by decide) rfl (fun ls hl => ?_)
        refine lv_aload_n hx hb dX4_reads_9 rfl (lv_at hl 1 rfl) ?_
        refine va_get (ci := 4) (v := .ref (a 5)) (C := RX4) (T := TX4) (N := 12) hx hb hts inw_X4 hown hK.1 hP 0 rfl rfl 9 (by decide) fl_22 (fun _ h9 => h9) rfl dX4_reads_10 ?_
        refine lv_iload_n hx hb dX4_reads_13 rfl (lv_at hl 3 rfl) ?_
        refine lv_iconst (v := 0) hx hb dX4_reads_14 (by decide) ?_
        obtain ⟨V2, hi2, eV2, hc⟩ := wr_some hc
        refine g_iast (w' := MW cy a V2) hx hb hK hP hD hS 5 rfl hi2 (by rw [← eV2]; rfl) dX4_reads_15 (fun H locs hP hD hS => ?_)
        exact L16 (f_X4_reads_L2 n) ih FUEL y1 y2 0 V2 H locs ls hc hP hD hS (lv_sub hl [1, 2, 3, 0] rfl)
  obtain ⟨H, hHe⟩ : ∃ H : Heap, H = s.heap := ⟨_, rfl⟩
  obtain ⟨locs, hLe⟩ : ∃ x : List Loc, x = [] := ⟨_, rfl⟩
  have hP : va_P D vwCl (MW cy a V) H := by rw [hHe]; exact hP
  have hS : va_S A s.heap H locs := by rw [hHe, hLe]; exact hS
  have goal0 : W p l e (RM 1 22) s m args below meth c H locs 0 0 Q (F0 m 0 ls []) := by
    refine lv_iconst (v := 0) hx hb dX4_reads_0 (by decide) ?_
    refine lv_istore_n (lv' := [(2, .int 0), (0, .ref (a 0)), (1, .int p1)]) hx hb dX4_reads_1 rfl hl (by decide) rfl (fun ls hl => ?_)
    exact L2 FUEL p1 0 V H locs ls hc hP hD hS (lv_sub hl [1, 2, 0] rfl)
  rw [hHe, hLe] at goal0
  exact goal0
set_option maxHeartbeats 4000000 in
set_option maxRecDepth 100000 in
theorem C_X4_does (l : Launch) (D : va_G) (cy : Nat → ClassId) (a : Nat → Nat) (V : FV) (p1 : Int32) (r : Int32) (V' : FV) (hc : f_X4_does V p1 = some (r, V')) : ConI l yX4_does wsX4_does 6 139 D cy (MW cy a) [.ref (a 0), .int p1] V V' r := by
  refine bodyI (cc := cX4_does) (maxL := 2) (ty := .int) (by decide +kernel) rfl (Nat.le_of_ble_eq_true rfl) ?_
  intro p e s m args below meth c A Q hx hb hml hts hown hK hP hD hA hS hend ls hl
  have hown : s.vm.findClass RX4 = some m.cls := hown
  have hP : va_P D vwCl (MW cy a V) s.heap := hP
  have hD : va_D A (MW cy a V) := hD
  have hl : lv_has ls 2 [(0, .ref (a 0)), (1, .int p1)] := hl
  have hend : ∀ (H : Heap) (locs : List Loc) (pc : Nat) (ls : Array Slot) (v : Int32) (V : FV), v = r → V = V' → narrow .int (.int v) = .int v → va_P D vwCl (MW cy a V) H → va_D A (MW cy a V) → va_S A s.heap H locs → decode cX4_does pc = .ok (.ireturn, 1) → W p l e (RM 6 139) s m args below meth c H locs 0 0 Q (F0 m pc ls [.int v]) := fun H locs pc ls v V h1 h2 h3 h4 h5 h6 h7 => hend H locs pc ls v V h1 h2 h3 h4 h5 h6 h7
  have fl_22 := hts (.fieldLink RX4 22 "NoonWellsModel" "numbers" "[I") (by decide +kernel)
  have inw_X4 := (by decide +kernel : ∀ w ∈ u_ws RX4 TX4 12, w ∈ wsX4_does)
  have fl_7 := hts (.fieldLink RX4 7 "NoonWellsModel" "now" "[I") (by decide +kernel)
  obtain ⟨H, hHe⟩ : ∃ H : Heap, H = s.heap := ⟨_, rfl⟩
  obtain ⟨locs, hLe⟩ : ∃ x : List Loc, x = [] := ⟨_, rfl⟩
  have hP : va_P D vwCl (MW cy a V) H := by rw [hHe]; exact hP
  have hS : va_S A s.heap H locs := by rw [hHe, hLe]; exact hS
  have goal0 : W p l e (RM 6 139) s m args below meth c H locs 0 0 Q (F0 m 0 ls []) := by
    refine lv_iload_n hx hb dX4_does_0 rfl (lv_at hl 1 rfl) ?_
    by_cases c1 : p1 = 100
    · replace hc := ite_t c1 hc
      refine lv_lookup (off := 35) (tgt := 36) hx hb dX4_does_1 (by decide) (by rw [c1]; rfl) (by decide) ?_
      refine lv_aload_n hx hb dX4_does_36 rfl (lv_at hl 0 rfl) ?_
      refine lv_aload_n hx hb dX4_does_37 rfl (lv_at hl 0 rfl) ?_
      refine va_get (ci := 4) (v := .ref (a 5)) (C := RX4) (T := TX4) (N := 12) hx hb hts inw_X4 hown hK.1 hP 0 rfl rfl 9 (by decide) fl_22 (fun _ h9 => h9) rfl dX4_does_38 ?_
      refine lv_iconst (v := 0) hx hb dX4_does_41 (by decide) ?_
      refine g_iald (x := V 5 0) hx hb hK hP 5 rfl (vp_lit (by decide)) rfl dX4_does_42 ?_
      refine lv_aload_n hx hb dX4_does_43 rfl (lv_at hl 0 rfl) ?_
      refine va_get (ci := 4) (v := .ref (a 5)) (C := RX4) (T := TX4) (N := 12) hx hb hts inw_X4 hown hK.1 hP 0 rfl rfl 9 (by decide) fl_22 (fun _ h9 => h9) rfl dX4_does_44 ?_
      refine lv_iconst (v := 1) hx hb dX4_does_47 (by decide) ?_
      refine g_iald (x := V 5 1) hx hb hK hP 5 rfl (vp_lit (by decide)) rfl dX4_does_48 ?_
      obtain ⟨x2, V2, hc2, hc⟩ := b2_some hc
      refine gc_VI (n := 2) (q0 := 0) (ci := 4) (w' := MW cy a V2) hx hb hml hown hts hK hP hD hS hA hl.1 ⟨Nat.le_refl _, Nat.le_refl _⟩ (C_X4_draws l D cy a V (V 5 0) (V 5 1) x2 V2 hc2) gX4_does_X4_draws rfl (by decide +kernel) rfl ⟨by decide, by decide⟩ Jn.same rfl rfl rfl (Nat.le_of_ble_eq_true rfl) dX4_does_49 (fun H locs hP hD hS => ?_)
      exact hend H locs _ _ _ _ (some_fst hc) (some_snd hc) rfl hP hD hS dX4_does_52
    replace hc := ite_f c1 hc
    by_cases c3 : p1 = 114
    · replace hc := ite_t c3 hc
      refine lv_lookup (off := 52) (tgt := 53) hx hb dX4_does_1 (by decide) (by rw [c3]; rfl) (by decide) ?_
      refine lv_aload_n hx hb dX4_does_53 rfl (lv_at hl 0 rfl) ?_
      refine lv_aload_n hx hb dX4_does_54 rfl (lv_at hl 0 rfl) ?_
      refine va_get (ci := 4) (v := .ref (a 5)) (C := RX4) (T := TX4) (N := 12) hx hb hts inw_X4 hown hK.1 hP 0 rfl rfl 9 (by decide) fl_22 (fun _ h9 => h9) rfl dX4_does_55 ?_
      refine lv_iconst (v := 0) hx hb dX4_does_58 (by decide) ?_
      refine g_iald (x := V 5 0) hx hb hK hP 5 rfl (vp_lit (by decide)) rfl dX4_does_59 ?_
      refine lv_aload_n hx hb dX4_does_60 rfl (lv_at hl 0 rfl) ?_
      refine va_get (ci := 4) (v := .ref (a 5)) (C := RX4) (T := TX4) (N := 12) hx hb hts inw_X4 hown hK.1 hP 0 rfl rfl 9 (by decide) fl_22 (fun _ h9 => h9) rfl dX4_does_61 ?_
      refine lv_iconst (v := 1) hx hb dX4_does_64 (by decide) ?_
      refine g_iald (x := V 5 1) hx hb hK hP 5 rfl (vp_lit (by decide)) rfl dX4_does_65 ?_
      obtain ⟨x4, V4, hc4, hc⟩ := b2_some hc
      refine gc_VI (n := 2) (q0 := 0) (ci := 4) (w' := MW cy a V4) hx hb hml hown hts hK hP hD hS hA hl.1 ⟨Nat.le_refl _, Nat.le_refl _⟩ (C_X4_requests l D cy a V (V 5 0) (V 5 1) x4 V4 hc4) gX4_does_X4_requests rfl (by decide +kernel) rfl ⟨by decide, by decide⟩ Jn.same rfl rfl rfl (Nat.le_of_ble_eq_true rfl) dX4_does_66 (fun H locs hP hD hS => ?_)
      exact hend H locs _ _ _ _ (some_fst hc) (some_snd hc) rfl hP hD hS dX4_does_69
    replace hc := ite_f c3 hc
    by_cases c5 : p1 = 116
    · replace hc := ite_t c5 hc
      refine lv_lookup (off := 69) (tgt := 70) hx hb dX4_does_1 (by decide) (by rw [c5]; rfl) (by decide) ?_
      refine lv_aload_n hx hb dX4_does_70 rfl (lv_at hl 0 rfl) ?_
      refine lv_aload_n hx hb dX4_does_71 rfl (lv_at hl 0 rfl) ?_
      refine va_get (ci := 4) (v := .ref (a 5)) (C := RX4) (T := TX4) (N := 12) hx hb hts inw_X4 hown hK.1 hP 0 rfl rfl 9 (by decide) fl_22 (fun _ h9 => h9) rfl dX4_does_72 ?_
      refine lv_iconst (v := 0) hx hb dX4_does_75 (by decide) ?_
      refine g_iald (x := V 5 0) hx hb hK hP 5 rfl (vp_lit (by decide)) rfl dX4_does_76 ?_
      obtain ⟨x6, V6, hc6, hc⟩ := b2_some hc
      refine gc_VI (n := 1) (q0 := 0) (ci := 4) (w' := MW cy a V6) hx hb hml hown hts hK hP hD hS hA hl.1 ⟨Nat.le_refl _, Nat.le_refl _⟩ (C_X4_passes l D cy a V (V 5 0) x6 V6 hc6) gX4_does_X4_passes rfl (by decide +kernel) rfl ⟨by decide, by decide⟩ Jn.same rfl rfl rfl (Nat.le_of_ble_eq_true rfl) dX4_does_77 (fun H locs hP hD hS => ?_)
      exact hend H locs _ _ _ _ (some_fst hc) (some_snd hc) rfl hP hD hS dX4_does_80
    replace hc := ite_f c5 hc
    refine lv_lookup (off := 80) (tgt := 81) hx hb dX4_does_1 (by decide) (sw_X4_does c1 c3 c5) (by decide) ?_
    refine lv_aload_n hx hb dX4_does_81 rfl (lv_at hl 0 rfl) ?_
    refine lv_aload_n hx hb dX4_does_82 rfl (lv_at hl 0 rfl) ?_
    refine va_get (ci := 4) (v := .ref (a 5)) (C := RX4) (T := TX4) (N := 12) hx hb hts inw_X4 hown hK.1 hP 0 rfl rfl 9 (by decide) fl_22 (fun _ h9 => h9) rfl dX4_does_83 ?_
    refine lv_iconst (v := 0) hx hb dX4_does_86 (by decide) ?_
    refine g_iald (x := V 5 0) hx hb hK hP 5 rfl (vp_lit (by decide)) rfl dX4_does_87 ?_
    refine lv_aload_n hx hb dX4_does_88 rfl (lv_at hl 0 rfl) ?_
    refine va_get (ci := 4) (v := .ref (a 1)) (C := RX4) (T := TX4) (N := 12) hx hb hts inw_X4 hown hK.1 hP 0 rfl rfl 0 (by decide) fl_7 (fun _ h9 => h9) rfl dX4_does_89 ?_
    refine lv_iconst (v := 0) hx hb dX4_does_92 (by decide) ?_
    refine g_iald (x := V 1 0) hx hb hK hP 1 rfl (vp_lit (by decide)) rfl dX4_does_93 ?_
    refine lv_aload_n hx hb dX4_does_94 rfl (lv_at hl 0 rfl) ?_
    refine va_get (ci := 4) (v := .ref (a 5)) (C := RX4) (T := TX4) (N := 12) hx hb hts inw_X4 hown hK.1 hP 0 rfl rfl 9 (by decide) fl_22 (fun _ h9 => h9) rfl dX4_does_95 ?_
    refine lv_iconst (v := 1) hx hb dX4_does_98 (by decide) ?_
    refine g_iald (x := V 5 1) hx hb hK hP 5 rfl (vp_lit (by decide)) rfl dX4_does_99 ?_
    refine lv_iadd hx hb dX4_does_100 ?_
    refine lv_aload_n hx hb dX4_does_101 rfl (lv_at hl 0 rfl) ?_
    refine va_get (ci := 4) (v := .ref (a 1)) (C := RX4) (T := TX4) (N := 12) hx hb hts inw_X4 hown hK.1 hP 0 rfl rfl 0 (by decide) fl_7 (fun _ h9 => h9) rfl dX4_does_102 ?_
    refine lv_iconst (v := 0) hx hb dX4_does_105 (by decide) ?_
    refine g_iald (x := V 1 0) hx hb hK hP 1 rfl (vp_lit (by decide)) rfl dX4_does_106 ?_
    refine lv_aload_n hx hb dX4_does_107 rfl (lv_at hl 0 rfl) ?_
    refine va_get (ci := 4) (v := .ref (a 5)) (C := RX4) (T := TX4) (N := 12) hx hb hts inw_X4 hown hK.1 hP 0 rfl rfl 9 (by decide) fl_22 (fun _ h9 => h9) rfl dX4_does_108 ?_
    refine lv_iconst (v := 2) hx hb dX4_does_111 (by decide) ?_
    refine g_iald (x := V 5 2) hx hb hK hP 5 rfl (vp_lit (by decide)) rfl dX4_does_112 ?_
    refine lv_iadd hx hb dX4_does_113 ?_
    obtain ⟨x7, V7, hc7, hc⟩ := b2_some hc
    refine gc_VI (n := 3) (q0 := 0) (ci := 4) (w' := MW cy a V7) hx hb hml hown hts hK hP hD hS hA hl.1 ⟨Nat.le_refl _, Nat.le_refl _⟩ (C_X4_addsDrought l D cy a V (V 5 0) ((V 1 0) + (V 5 1)) ((V 1 0) + (V 5 2)) x7 V7 hc7) gX4_does_X4_addsDrought rfl (by decide +kernel) rfl ⟨by decide, by decide⟩ Jn.same rfl rfl rfl (Nat.le_of_ble_eq_true rfl) dX4_does_114 (fun H locs hP hD hS => ?_)
    exact hend H locs _ _ _ _ (some_fst hc) (some_snd hc) rfl hP hD hS dX4_does_117
  rw [hHe, hLe] at goal0
  exact goal0
