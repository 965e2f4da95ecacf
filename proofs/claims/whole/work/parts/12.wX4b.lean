set_option maxHeartbeats 4000000 in
set_option maxRecDepth 100000 in
theorem C_X4_requestAt (l : Launch) (D : va_G) (cy : Nat → ClassId) (a : Nat → Nat) (V : FV) (p1 : Int32) (p2 : Int32) (r : Int32) (hc : f_X4_requestAt V p1 p2 = some r) : ConI l yX4_requestAt wsX4_requestAt 2 43 D cy (MW cy a) [.ref (a 0), .int p1, .int p2] V V r := by
  refine bodyI (cc := cX4_requestAt) (maxL := 3) (ty := .int) (by decide +kernel) rfl (Nat.le_of_ble_eq_true rfl) ?_
  intro p e s m args below meth c A Q hx hb hml hts hown hK hP hD hA hS hend ls hl
  have hown : s.vm.findClass RX4 = some m.cls := hown
  have hP : va_P D vwCl (MW cy a V) s.heap := hP
  have hD : va_D A (MW cy a V) := hD
  have hl : lv_has ls 3 [(0, .ref (a 0)), (1, .int p1), (2, .int p2)] := hl
  have hend : ∀ (H : Heap) (locs : List Loc) (pc : Nat) (ls : Array Slot) (v : Int32), v = r → narrow .int (.int v) = .int v → va_P D vwCl (MW cy a V) H → va_D A (MW cy a V) → va_S A s.heap H locs → decode cX4_requestAt pc = .ok (.ireturn, 1) → W p l e (RM 2 43) s m args below meth c H locs 0 0 Q (F0 m pc ls [.int v]) := fun H locs pc ls v h1 h3 h4 h5 h6 h7 => hend H locs pc ls v V h1 rfl h3 h4 h5 h6 h7
  have fl_7 := hts (.fieldLink RX4 7 "NoonWellsModel" "now" "[I") (by decide +kernel)
  have inw_X4 := (by decide +kernel : ∀ w ∈ u_ws RX4 TX4 12, w ∈ wsX4_requestAt)
  obtain ⟨H, hHe⟩ : ∃ H : Heap, H = s.heap := ⟨_, rfl⟩
  obtain ⟨locs, hLe⟩ : ∃ x : List Loc, x = [] := ⟨_, rfl⟩
  have hP : va_P D vwCl (MW cy a V) H := by rw [hHe]; exact hP
  have hS : va_S A s.heap H locs := by rw [hHe, hLe]; exact hS
  have goal0 : W p l e (RM 2 43) s m args below meth c H locs 0 0 Q (F0 m 0 ls []) := by
    refine lv_aload_n hx hb dX4_requestAt_0 rfl (lv_at hl 0 rfl) ?_
    refine lv_iload_n hx hb dX4_requestAt_1 rfl (lv_at hl 1 rfl) ?_
    obtain ⟨x1, hc1, hc⟩ := b1_some hc
    refine gc_VI (n := 1) (q0 := 0) (ci := 4) (w' := MW cy a V) hx hb hml hown hts hK hP hD hS hA hl.1 ⟨Nat.le_refl _, Nat.le_refl _⟩ (C_X4_isPlace l D cy a V p1 x1 hc1) gX4_requestAt_X4_isPlace rfl (by decide +kernel) rfl ⟨by decide, by decide⟩ Jn.same rfl rfl rfl (Nat.le_of_ble_eq_true rfl) dX4_requestAt_2 (fun H locs hP hD hS => ?_)
    refine lv_if_eq (tgt := 36) hx hb dX4_requestAt_5 (by decide) (fun c2 => ?_) (fun c2 => ?_)
    · replace hc := ite_t c2 hc
      refine lv_iconst (v := (-1)) hx hb dX4_requestAt_36 (by decide) ?_
      exact hend H locs _ _ _ (some_one hc) rfl hP hD hS dX4_requestAt_37
    · replace hc := ite_f c2 hc
      refine lv_iload_n hx hb dX4_requestAt_8 rfl (lv_at hl 2 rfl) ?_
      refine lv_iconst (v := 0) hx hb dX4_requestAt_9 (by decide) ?_
      refine lv_iconst (v := 2) hx hb dX4_requestAt_10 (by decide) ?_
      obtain ⟨x3, hc3, hc⟩ := b1_some hc
      refine gc_SI (n := 3) (w' := MW cy a V) hx hb hml hown hts hK hP hD hS hA hl.1 ⟨Nat.le_refl _, Nat.le_refl _⟩ (C_X4_in l D cy p2 0 2 x3 hc3) gX4_requestAt_X4_in rfl (by decide +kernel) rfl ⟨by decide, by decide⟩ Jn.none rfl (Nat.le_of_ble_eq_true rfl) dX4_requestAt_11 (fun H locs hP hD hS => ?_)
      refine lv_if_eq (tgt := 36) hx hb dX4_requestAt_14 (by decide) (fun c4 => ?_) (fun c4 => ?_)
      · replace hc := ite_t c4 hc
        refine lv_iconst (v := (-1)) hx hb dX4_requestAt_36 (by decide) ?_
        exact hend H locs _ _ _ (some_one hc) rfl hP hD hS dX4_requestAt_37
      · replace hc := ite_f c4 hc
        refine lv_aload_n hx hb dX4_requestAt_17 rfl (lv_at hl 0 rfl) ?_
        refine va_get (ci := 4) (v := .ref (a 1)) (C := RX4) (T := TX4) (N := 12) hx hb hts inw_X4 hown hK.1 hP 0 rfl rfl 0 (by decide) fl_7 (fun _ h9 => h9) rfl dX4_requestAt_18 ?_
        refine lv_sipush (v := 212) hx hb dX4_requestAt_21 (by decide +kernel) ?_
        refine lv_iconst (v := 3) hx hb dX4_requestAt_24 (by decide) ?_
        refine lv_iload_n hx hb dX4_requestAt_25 rfl (lv_at hl 1 rfl) ?_
        refine lv_iconst (v := 1) hx hb dX4_requestAt_26 (by decide) ?_
        refine lv_isub hx hb dX4_requestAt_27 ?_
        refine lv_imul hx hb dX4_requestAt_28 ?_
        refine lv_iadd hx hb dX4_requestAt_29 ?_
        refine lv_iload_n hx hb dX4_requestAt_30 rfl (lv_at hl 2 rfl) ?_
        refine lv_iadd hx hb dX4_requestAt_31 ?_
        obtain ⟨x5, hi5, hv5, hc⟩ := rd_some hc
        refine g_iald (x := x5) hx hb hK hP 1 rfl hi5 hv5 dX4_requestAt_32 ?_
        refine lv_goto (tgt := 37) hx hb dX4_requestAt_33 (by decide) ?_
        exact hend H locs _ _ _ (some_one hc) rfl hP hD hS dX4_requestAt_37
  rw [hHe, hLe] at goal0
  exact goal0
set_option maxHeartbeats 4000000 in
set_option maxRecDepth 100000 in
theorem C_X4_able (l : Launch) (D : va_G) (cy : Nat → ClassId) (a : Nat → Nat) (V : FV) (p1 : Int32) (r : Int32) (hc : f_X4_able V p1 = some r) : ConI l yX4_able wsX4_able 2 45 D cy (MW cy a) [.ref (a 0), .int p1] V V r := by
  refine bodyI (cc := cX4_able) (maxL := 2) (ty := .int) (by decide +kernel) rfl (Nat.le_of_ble_eq_true rfl) ?_
  intro p e s m args below meth c A Q hx hb hml hts hown hK hP hD hA hS hend ls hl
  have hown : s.vm.findClass RX4 = some m.cls := hown
  have hP : va_P D vwCl (MW cy a V) s.heap := hP
  have hD : va_D A (MW cy a V) := hD
  have hl : lv_has ls 2 [(0, .ref (a 0)), (1, .int p1)] := hl
  have hend : ∀ (H : Heap) (locs : List Loc) (pc : Nat) (ls : Array Slot) (v : Int32), v = r → narrow .int (.int v) = .int v → va_P D vwCl (MW cy a V) H → va_D A (MW cy a V) → va_S A s.heap H locs → decode cX4_able pc = .ok (.ireturn, 1) → W p l e (RM 2 45) s m args below meth c H locs 0 0 Q (F0 m pc ls [.int v]) := fun H locs pc ls v h1 h3 h4 h5 h6 h7 => hend H locs pc ls v V h1 rfl h3 h4 h5 h6 h7
  obtain ⟨H, hHe⟩ : ∃ H : Heap, H = s.heap := ⟨_, rfl⟩
  obtain ⟨locs, hLe⟩ : ∃ x : List Loc, x = [] := ⟨_, rfl⟩
  have hP : va_P D vwCl (MW cy a V) H := by rw [hHe]; exact hP
  have hS : va_S A s.heap H locs := by rw [hHe, hLe]; exact hS
  have goal0 : W p l e (RM 2 45) s m args below meth c H locs 0 0 Q (F0 m 0 ls []) := by
    refine lv_aload_n hx hb dX4_able_0 rfl (lv_at hl 0 rfl) ?_
    refine lv_iload_n hx hb dX4_able_1 rfl (lv_at hl 1 rfl) ?_
    obtain ⟨x1, hc1, hc⟩ := b1_some hc
    refine gc_VI (n := 1) (q0 := 0) (ci := 4) (w' := MW cy a V) hx hb hml hown hts hK hP hD hS hA hl.1 ⟨Nat.le_refl _, Nat.le_refl _⟩ (C_X4_isWell l D cy a V p1 x1 hc1) gX4_able_X4_isWell rfl (by decide +kernel) rfl ⟨by decide, by decide⟩ Jn.same rfl rfl rfl (Nat.le_of_ble_eq_true rfl) dX4_able_2 (fun H locs hP hD hS => ?_)
    refine lv_if_eq (tgt := 16) hx hb dX4_able_5 (by decide) (fun c2 => ?_) (fun c2 => ?_)
    · replace hc := ite_t c2 hc
      refine lv_iconst (v := (-1)) hx hb dX4_able_16 (by decide) ?_
      exact hend H locs _ _ _ (some_one hc) rfl hP hD hS dX4_able_17
    · replace hc := ite_f c2 hc
      refine lv_aload_n hx hb dX4_able_8 rfl (lv_at hl 0 rfl) ?_
      refine lv_iload_n hx hb dX4_able_9 rfl (lv_at hl 1 rfl) ?_
      obtain ⟨x3, hc3, hc⟩ := b1_some hc
      refine gc_VI (n := 1) (q0 := 0) (ci := 4) (w' := MW cy a V) hx hb hml hown hts hK hP hD hS hA hl.1 ⟨Nat.le_refl _, Nat.le_refl _⟩ (C_X4_ableOf l D cy a V p1 x3 hc3) gX4_able_X4_ableOf rfl (by decide +kernel) rfl ⟨by decide, by decide⟩ Jn.same rfl rfl rfl (Nat.le_of_ble_eq_true rfl) dX4_able_10 (fun H locs hP hD hS => ?_)
      refine lv_goto (tgt := 17) hx hb dX4_able_13 (by decide) ?_
      exact hend H locs _ _ _ (some_one hc) rfl hP hD hS dX4_able_17
  rw [hHe, hLe] at goal0
  exact goal0
set_option maxHeartbeats 4000000 in
set_option maxRecDepth 100000 in
theorem C_X4_gives (l : Launch) (D : va_G) (cy : Nat → ClassId) (a : Nat → Nat) (V : FV) (p1 : Int32) (p2 : Int32) (p3 : Int32) (r : Int32) (hc : f_X4_gives V p1 p2 p3 = some r) : ConI l yX4_gives wsX4_gives 2 45 D cy (MW cy a) [.ref (a 0), .int p1, .int p2, .int p3] V V r := by
  refine bodyI (cc := cX4_gives) (maxL := 7) (ty := .int) (by decide +kernel) rfl (Nat.le_of_ble_eq_true rfl) ?_
  intro p e s m args below meth c A Q hx hb hml hts hown hK hP hD hA hS hend ls hl
  have hown : s.vm.findClass RX4 = some m.cls := hown
  have hP : va_P D vwCl (MW cy a V) s.heap := hP
  have hD : va_D A (MW cy a V) := hD
  have hl : lv_has ls 7 [(0, .ref (a 0)), (1, .int p1), (2, .int p2), (3, .int p3)] := hl
  have hend : ∀ (H : Heap) (locs : List Loc) (pc : Nat) (ls : Array Slot) (v : Int32), v = r → narrow .int (.int v) = .int v → va_P D vwCl (MW cy a V) H → va_D A (MW cy a V) → va_S A s.heap H locs → decode cX4_gives pc = .ok (.ireturn, 1) → W p l e (RM 2 45) s m args below meth c H locs 0 0 Q (F0 m pc ls [.int v]) := fun H locs pc ls v h1 h3 h4 h5 h6 h7 => hend H locs pc ls v V h1 rfl h3 h4 h5 h6 h7
  have L43 : ∀ (n : Nat), ∀ (y1 y2 y3 y4 y5 : Int32) (H : Heap) (locs : List Loc) (ls : Array Slot), f_X4_gives_L43 V n y1 y2 y3 y4 y5 = some r → va_P D vwCl (MW cy a V) H → va_D A (MW cy a V) → va_S A s.heap H locs → lv_has ls 7 [(0, .ref (a 0)), (1, .int y1), (2, .int y2), (3, .int y3), (4, .int y4), (5, .int y5)] → W p l e (RM 2 45) s m args below meth c H locs 0 0 Q (F0 m 43 ls []) := by
    intro n
    induction n with
    | zero =>
      intro y1 y2 y3 y4 y5 H locs ls hc
      cases hc
    | succ n ih =>
      intro y1 y2 y3 y4 y5 H locs ls hc hP hD hS hl
      refine lv_iload hx hb dX4_gives_43 (lv_at hl 5 rfl) ?_
      refine lv_if_lt (tgt := 87) hx hb dX4_gives_45 (by decide) (fun c9 => ?_) (fun c9 => ?_)
      · replace hc := ite_t c9 hc
        refine lv_iconst (v := 0) hx hb dX4_gives_87 (by decide) ?_
        exact hend H locs _ _ _ (some_one hc) rfl hP hD hS dX4_gives_88
      · replace hc := ite_f c9 hc
        refine lv_aload_n hx hb dX4_gives_48 rfl (lv_at hl 0 rfl) ?_
        refine lv_iload_n hx hb dX4_gives_49 rfl (lv_at hl 1 rfl) ?_
        refine lv_iload hx hb dX4_gives_50 (lv_at hl 5 rfl) ?_
        refine lv_iload hx hb dX4_gives_52 (lv_at hl 4 rfl) ?_
        obtain ⟨x10, hc10, hc⟩ := b1_some hc
        refine gc_VI (n := 3) (q0 := 0) (ci := 4) (w' := MW cy a V) hx hb hml hown hts hK hP hD hS hA hl.1 ⟨Nat.le_refl _, Nat.le_refl _⟩ (C_X4_part l D cy a V y1 y5 y4 x10 hc10) gX4_gives_X4_part rfl (by decide +kernel) rfl ⟨by decide, by decide⟩ Jn.same rfl rfl rfl (Nat.le_of_ble_eq_true rfl) dX4_gives_54 (fun H locs hP hD hS => ?_)
        refine lv_istore (lv' := [(6, .int x10), (0, .ref (a 0)), (1, .int y1), (2, .int y2), (3, .int y3), (4, .int y4), (5, .int y5)]) hx hb dX4_gives_57 hl (by decide) rfl (fun ls hl => ?_)
        refine lv_iload hx hb dX4_gives_59 (lv_at hl 6 rfl) ?_
        refine lv_iload_n hx hb dX4_gives_61 rfl (lv_at hl 4 rfl) ?_
        refine lv_icmp_ne (tgt := 68) hx hb dX4_gives_62 (by decide) (fun c11 => ?_) (fun c11 => ?_)
        · replace hc := ite_f c11 hc
          refine lv_iload hx hb dX4_gives_68 (lv_at hl 5 rfl) ?_
          refine lv_iload hx hb dX4_gives_70 (lv_at hl 0 rfl) ?_
          refine lv_isub hx hb dX4_gives_72 ?_
          refine lv_istore (lv' := [(4, .int (y4 - x10)), (6, .int x10), (0, .ref (a 0)), (1, .int y1), (2, .int y2), (3, .int y3), (5, .int y5)]) hx hb dX4_gives_73 hl (by decide) rfl (fun ls hl => ?_)
          refine lv_aload_n hx hb dX4_gives_75 rfl (lv_at hl 2 rfl) ?_
          refine lv_iload hx hb dX4_gives_76 (lv_at hl 6 rfl) ?_
          refine lv_iconst (v := 0) hx hb dX4_gives_78 (by decide) ?_
          obtain ⟨x12, hc12, hc⟩ := b1_some hc
          refine gc_VI (n := 2) (q0 := 0) (ci := 4) (w' := MW cy a V) hx hb hml hown hts hK hP hD hS hA hl.1 ⟨Nat.le_refl _, Nat.le_refl _⟩ (C_X4_of l D cy a V y5 0 x12 hc12) gX4_gives_X4_of rfl (by decide +kernel) rfl ⟨by decide, by decide⟩ Jn.same rfl rfl rfl (Nat.le_of_ble_eq_true rfl) dX4_gives_79 (fun H locs hP hD hS => ?_)
          refine lv_istore (lv' := [(5, .int x12), (4, .int (y4 - x10)), (6, .int x10), (0, .ref (a 0)), (1, .int y1), (2, .int y2), (3, .int y3)]) hx hb dX4_gives_82 hl (by decide) rfl (fun ls hl => ?_)
          refine lv_goto (tgt := 43) hx hb dX4_gives_84 (by decide) ?_
          exact ih y1 y2 y3 (y4 - x10) x12 H locs ls hc hP hD hS (lv_sub hl [3, 4, 5, 6, 1, 0] rfl)
        · replace hc := ite_t c11 hc
          refine lv_iload hx hb dX4_gives_65 (lv_at hl 0 rfl) ?_
          exact hend H locs _ _ _ (some_one hc) rfl hP hD hS dX4_gives_67
  obtain ⟨H, hHe⟩ : ∃ H : Heap, H = s.heap := ⟨_, rfl⟩
  obtain ⟨locs, hLe⟩ : ∃ x : List Loc, x = [] := ⟨_, rfl⟩
  have hP : va_P D vwCl (MW cy a V) H := by rw [hHe]; exact hP
  have hS : va_S A s.heap H locs := by rw [hHe, hLe]; exact hS
  have goal0 : W p l e (RM 2 45) s m args below meth c H locs 0 0 Q (F0 m 0 ls []) := by
    refine lv_aload_n hx hb dX4_gives_0 rfl (lv_at hl 0 rfl) ?_
    refine lv_iload_n hx hb dX4_gives_1 rfl (lv_at hl 1 rfl) ?_
    obtain ⟨x1, hc1, hc⟩ := b1_some hc
    refine gc_VI (n := 1) (q0 := 0) (ci := 4) (w' := MW cy a V) hx hb hml hown hts hK hP hD hS hA hl.1 ⟨Nat.le_refl _, Nat.le_refl _⟩ (C_X4_isWell l D cy a V p1 x1 hc1) gX4_gives_X4_isWell rfl (by decide +kernel) rfl ⟨by decide, by decide⟩ Jn.same rfl rfl rfl (Nat.le_of_ble_eq_true rfl) dX4_gives_2 (fun H locs hP hD hS => ?_)
    refine lv_if_eq (tgt := 23) hx hb dX4_gives_5 (by decide) (fun c2 => ?_) (fun c2 => ?_)
    · replace hc := ite_t c2 hc
      refine lv_iconst (v := (-1)) hx hb dX4_gives_23 (by decide) ?_
      exact hend H locs _ _ _ (some_one hc) rfl hP hD hS dX4_gives_24
    · replace hc := ite_f c2 hc
      refine lv_iload_n hx hb dX4_gives_8 rfl (lv_at hl 2 rfl) ?_
      obtain ⟨x3, hc3, hc⟩ := b1_some hc
      refine gc_SI (n := 1) (w' := MW cy a V) hx hb hml hown hts hK hP hD hS hA hl.1 ⟨Nat.le_refl _, Nat.le_refl _⟩ (C_X4_isDraw l D cy p2 x3 hc3) gX4_gives_X4_isDraw rfl (by decide +kernel) rfl ⟨by decide, by decide⟩ Jn.none rfl (Nat.le_of_ble_eq_true rfl) dX4_gives_9 (fun H locs hP hD hS => ?_)
      refine lv_if_eq (tgt := 23) hx hb dX4_gives_12 (by decide) (fun c4 => ?_) (fun c4 => ?_)
      · replace hc := ite_t c4 hc
        refine lv_iconst (v := (-1)) hx hb dX4_gives_23 (by decide) ?_
        exact hend H locs _ _ _ (some_one hc) rfl hP hD hS dX4_gives_24
      · replace hc := ite_f c4 hc
        refine lv_aload_n hx hb dX4_gives_15 rfl (lv_at hl 0 rfl) ?_
        refine lv_iload_n hx hb dX4_gives_16 rfl (lv_at hl 3 rfl) ?_
        obtain ⟨x5, hc5, hc⟩ := b1_some hc
        refine gc_VI (n := 1) (q0 := 0) (ci := 4) (w' := MW cy a V) hx hb hml hown hts hK hP hD hS hA hl.1 ⟨Nat.le_refl _, Nat.le_refl _⟩ (C_X4_isWell l D cy a V p3 x5 hc5) gX4_gives_X4_isWell rfl (by decide +kernel) rfl ⟨by decide, by decide⟩ Jn.same rfl rfl rfl (Nat.le_of_ble_eq_true rfl) dX4_gives_17 (fun H locs hP hD hS => ?_)
        refine lv_if_ne (tgt := 25) hx hb dX4_gives_20 (by decide) (fun c6 => ?_) (fun c6 => ?_)
        · replace hc := ite_f c6 hc
          refine lv_aload_n hx hb dX4_gives_25 rfl (lv_at hl 0 rfl) ?_
          refine lv_iload_n hx hb dX4_gives_26 rfl (lv_at hl 1 rfl) ?_
          obtain ⟨x7, hc7, hc⟩ := b1_some hc
          refine gc_VI (n := 1) (q0 := 0) (ci := 4) (w' := MW cy a V) hx hb hml hown hts hK hP hD hS hA hl.1 ⟨Nat.le_refl _, Nat.le_refl _⟩ (C_X4_ableOf l D cy a V p1 x7 hc7) gX4_gives_X4_ableOf rfl (by decide +kernel) rfl ⟨by decide, by decide⟩ Jn.same rfl rfl rfl (Nat.le_of_ble_eq_true rfl) dX4_gives_27 (fun H locs hP hD hS => ?_)
          refine lv_iload_n hx hb dX4_gives_30 rfl (lv_at hl 2 rfl) ?_
          refine lv_icmp_ge (tgt := 37) hx hb dX4_gives_31 (by decide) (fun c8 => ?_) (fun c8 => ?_)
          · replace hc := ite_t c8 hc
            refine lv_iload_n hx hb dX4_gives_37 rfl (lv_at hl 2 rfl) ?_
            refine lv_istore (lv' := [(4, .int p2), (0, .ref (a 0)), (1, .int p1), (2, .int p2), (3, .int p3)]) hx hb dX4_gives_38 hl (by decide) rfl (fun ls hl => ?_)
            refine lv_iload_n hx hb dX4_gives_40 rfl (lv_at hl 2 rfl) ?_
            refine lv_istore (lv' := [(5, .int p1), (4, .int p2), (0, .ref (a 0)), (1, .int p1), (2, .int p2), (3, .int p3)]) hx hb dX4_gives_41 hl (by decide) rfl (fun ls hl => ?_)
            exact L43 FUEL p1 p2 p3 p2 p1 H locs ls hc hP hD hS (lv_sub hl [2, 3, 4, 5, 1, 0] rfl)
          · replace hc := ite_f c8 hc
            refine lv_bipush (v := (-2)) hx hb dX4_gives_34 (by decide +kernel) ?_
            exact hend H locs _ _ _ (some_one hc) rfl hP hD hS dX4_gives_36
        · replace hc := ite_t c6 hc
          refine lv_iconst (v := (-1)) hx hb dX4_gives_23 (by decide) ?_
          exact hend H locs _ _ _ (some_one hc) rfl hP hD hS dX4_gives_24
  rw [hHe, hLe] at goal0
  exact goal0
set_option maxHeartbeats 4000000 in
set_option maxRecDepth 100000 in
theorem C_X4_sum (l : Launch) (D : va_G) (cy : Nat → ClassId) (a : Nat → Nat) (V : FV) (p1 : Int32) (r : Int32) (hc : f_X4_sum V p1 = some r) : ConI l yX4_sum wsX4_sum 1 22 D cy (MW cy a) [.ref (a 0), .int p1] V V r := by
  refine bodyI (cc := cX4_sum) (maxL := 4) (ty := .int) (by decide +kernel) rfl (Nat.le_of_ble_eq_true rfl) ?_
  intro p e s m args below meth c A Q hx hb hml hts hown hK hP hD hA hS hend ls hl
  have hown : s.vm.findClass RX4 = some m.cls := hown
  have hP : va_P D vwCl (MW cy a V) s.heap := hP
  have hD : va_D A (MW cy a V) := hD
  have hl : lv_has ls 4 [(0, .ref (a 0)), (1, .int p1)] := hl
  have hend : ∀ (H : Heap) (locs : List Loc) (pc : Nat) (ls : Array Slot) (v : Int32), v = r → narrow .int (.int v) = .int v → va_P D vwCl (MW cy a V) H → va_D A (MW cy a V) → va_S A s.heap H locs → decode cX4_sum pc = .ok (.ireturn, 1) → W p l e (RM 1 22) s m args below meth c H locs 0 0 Q (F0 m pc ls [.int v]) := fun H locs pc ls v h1 h3 h4 h5 h6 h7 => hend H locs pc ls v V h1 rfl h3 h4 h5 h6 h7
  have fl_7 := hts (.fieldLink RX4 7 "NoonWellsModel" "now" "[I") (by decide +kernel)
  have inw_X4 := (by decide +kernel : ∀ w ∈ u_ws RX4 TX4 12, w ∈ wsX4_sum)
  have L4 : ∀ (n : Nat), ∀ (y1 y2 y3 : Int32) (H : Heap) (locs : List Loc) (ls : Array Slot), f_X4_sum_L4 V n y1 y2 y3 = some r → va_P D vwCl (MW cy a V) H → va_D A (MW cy a V) → va_S A s.heap H locs → lv_has ls 4 [(0, .ref (a 0)), (1, .int y1), (2, .int y2), (3, .int y3)] → W p l e (RM 1 22) s m args below meth c H locs 0 0 Q (F0 m 4 ls []) := by
    intro n
    induction n with
    | zero =>
      intro y1 y2 y3 H locs ls hc
      cases hc
    | succ n ih =>
      intro y1 y2 y3 H locs ls hc hP hD hS hl
      refine lv_iload_n hx hb dX4_sum_4 rfl (lv_at hl 3 rfl) ?_
      refine lv_aload_n hx hb dX4_sum_5 rfl (lv_at hl 0 rfl) ?_
      refine va_get (ci := 4) (v := .ref (a 1)) (C := RX4) (T := TX4) (N := 12) hx hb hts inw_X4 hown hK.1 hP 0 rfl rfl 0 (by decide) fl_7 (fun _ h9 => h9) rfl dX4_sum_6 ?_
      refine lv_iconst (v := 3) hx hb dX4_sum_9 (by decide) ?_
      refine g_iald (x := V 1 3) hx hb hK hP 1 rfl (vp_lit (by decide)) rfl dX4_sum_10 ?_
      refine lv_icmp_ge (tgt := 29) hx hb dX4_sum_11 (by decide) (fun c1 => ?_) (fun c1 => ?_)
      · replace hc := ite_t c1 hc
        refine lv_iload_n hx hb dX4_sum_29 rfl (lv_at hl 2 rfl) ?_
        exact hend H locs _ _ _ (some_one hc) rfl hP hD hS dX4_sum_30
      · replace hc := ite_f c1 hc
        refine lv_iload_n hx hb dX4_sum_14 rfl (lv_at hl 2 rfl) ?_
        refine lv_aload_n hx hb dX4_sum_15 rfl (lv_at hl 0 rfl) ?_
        refine lv_iload_n hx hb dX4_sum_16 rfl (lv_at hl 3 rfl) ?_
        refine lv_iload_n hx hb dX4_sum_17 rfl (lv_at hl 1 rfl) ?_
        obtain ⟨x2, hc2, hc⟩ := b1_some hc
        refine gc_VI (n := 2) (q0 := 0) (ci := 4) (w' := MW cy a V) hx hb hml hown hts hK hP hD hS hA hl.1 ⟨Nat.le_refl _, Nat.le_refl _⟩ (C_X4_of l D cy a V y3 y1 x2 hc2) gX4_sum_X4_of rfl (by decide +kernel) rfl ⟨by decide, by decide⟩ Jn.same rfl rfl rfl (Nat.le_of_ble_eq_true rfl) dX4_sum_18 (fun H locs hP hD hS => ?_)
        refine lv_iadd hx hb dX4_sum_21 ?_
        refine lv_istore_n (lv' := [(2, .int (y2 + x2)), (0, .ref (a 0)), (1, .int y1), (3, .int y3)]) hx hb dX4_sum_22 rfl hl (by decide) rfl (fun ls hl => ?_)
        refine lv_iinc (v := y3 + 1) (lv' := [(3, .int (y3 + 1)), (2, .int (y2 + x2)), (0, .ref (a 0)), (1, .int y1)]) hx hb dX4_sum_23 hl (k := 3) rfl rfl (by decide) rfl (fun ls hl => ?_)
        refine lv_goto (tgt := 4) hx hb dX4_sum_26 (by decide) ?_
        exact ih y1 (y2 + x2) (y3 + 1) H locs ls hc hP hD hS (lv_sub hl [2, 3, 1, 0] rfl)
  obtain ⟨H, hHe⟩ : ∃ H : Heap, H = s.heap := ⟨_, rfl⟩
  obtain ⟨locs, hLe⟩ : ∃ x : List Loc, x = [] := ⟨_, rfl⟩
  have hP : va_P D vwCl (MW cy a V) H := by rw [hHe]; exact hP
  have hS : va_S A s.heap H locs := by rw [hHe, hLe]; exact hS
  have goal0 : W p l e (RM 1 22) s m args below meth c H locs 0 0 Q (F0 m 0 ls []) := by
    refine lv_iconst (v := 0) hx hb dX4_sum_0 (by decide) ?_
    refine lv_istore_n (lv' := [(2, .int 0), (0, .ref (a 0)), (1, .int p1)]) hx hb dX4_sum_1 rfl hl (by decide) rfl (fun ls hl => ?_)
    refine lv_iconst (v := 0) hx hb dX4_sum_2 (by decide) ?_
    refine lv_istore_n (lv' := [(3, .int 0), (2, .int 0), (0, .ref (a 0)), (1, .int p1)]) hx hb dX4_sum_3 rfl hl (by decide) rfl (fun ls hl => ?_)
    exact L4 FUEL p1 0 0 H locs ls hc hP hD hS (lv_sub hl [2, 3, 1, 0] rfl)
  rw [hHe, hLe] at goal0
  exact goal0
set_option maxHeartbeats 4000000 in
set_option maxRecDepth 100000 in
theorem C_X4_count (l : Launch) (D : va_G) (cy : Nat → ClassId) (a : Nat → Nat) (V : FV) (p1 : Int32) (r : Int32) (hc : f_X4_count V p1 = some r) : ConI l yX4_count wsX4_count 2 45 D cy (MW cy a) [.ref (a 0), .int p1] V V r := by
  refine bodyI (cc := cX4_count) (maxL := 2) (ty := .int) (by decide +kernel) rfl (Nat.le_of_ble_eq_true rfl) ?_
  intro p e s m args below meth c A Q hx hb hml hts hown hK hP hD hA hS hend ls hl
  have hown : s.vm.findClass RX4 = some m.cls := hown
  have hP : va_P D vwCl (MW cy a V) s.heap := hP
  have hD : va_D A (MW cy a V) := hD
  have hl : lv_has ls 2 [(0, .ref (a 0)), (1, .int p1)] := hl
  have hend : ∀ (H : Heap) (locs : List Loc) (pc : Nat) (ls : Array Slot) (v : Int32), v = r → narrow .int (.int v) = .int v → va_P D vwCl (MW cy a V) H → va_D A (MW cy a V) → va_S A s.heap H locs → decode cX4_count pc = .ok (.ireturn, 1) → W p l e (RM 2 45) s m args below meth c H locs 0 0 Q (F0 m pc ls [.int v]) := fun H locs pc ls v h1 h3 h4 h5 h6 h7 => hend H locs pc ls v V h1 rfl h3 h4 h5 h6 h7
  have fl_7 := hts (.fieldLink RX4 7 "NoonWellsModel" "now" "[I") (by decide +kernel)
  have inw_X4 := (by decide +kernel : ∀ w ∈ u_ws RX4 TX4 12, w ∈ wsX4_count)
  have fl_29 := hts (.fieldLink RX4 29 "NoonWellsModel" "stateMany" "I") (by decide +kernel)
  have fl_131 := hts (.fieldLink RX4 131 "NoonWellsModel" "letters" "I") (by decide +kernel)
  obtain ⟨H, hHe⟩ : ∃ H : Heap, H = s.heap := ⟨_, rfl⟩
  obtain ⟨locs, hLe⟩ : ∃ x : List Loc, x = [] := ⟨_, rfl⟩
  have hP : va_P D vwCl (MW cy a V) H := by rw [hHe]; exact hP
  have hS : va_S A s.heap H locs := by rw [hHe, hLe]; exact hS
  have goal0 : W p l e (RM 2 45) s m args below meth c H locs 0 0 Q (F0 m 0 ls []) := by
    refine lv_iload_n hx hb dX4_count_0 rfl (lv_at hl 1 rfl) ?_
    by_cases c1 : p1 = 0
    · replace hc := ite_t c1 hc
      refine lv_tableIn (off := 103) (tgt := 104) hx hb dX4_count_1 (by rw [c1]; decide) (by rw [c1]; decide) (by rw [c1]; rfl) (by decide) ?_
      refine lv_aload_n hx hb dX4_count_104 rfl (lv_at hl 0 rfl) ?_
      refine va_get (ci := 4) (v := .ref (a 1)) (C := RX4) (T := TX4) (N := 12) hx hb hts inw_X4 hown hK.1 hP 0 rfl rfl 0 (by decide) fl_7 (fun _ h9 => h9) rfl dX4_count_105 ?_
      refine lv_iconst (v := 3) hx hb dX4_count_108 (by decide) ?_
      refine g_iald (x := V 1 3) hx hb hK hP 1 rfl (vp_lit (by decide)) rfl dX4_count_109 ?_
      exact hend H locs _ _ _ (some_one hc) rfl hP hD hS dX4_count_110
    replace hc := ite_f c1 hc
    by_cases c2 : p1 = 1
    · replace hc := ite_t c2 hc
      refine lv_tableIn (off := 110) (tgt := 111) hx hb dX4_count_1 (by rw [c2]; decide) (by rw [c2]; decide) (by rw [c2]; rfl) (by decide) ?_
      refine lv_aload_n hx hb dX4_count_111 rfl (lv_at hl 0 rfl) ?_
      refine va_get (ci := 4) (v := .ref (a 1)) (C := RX4) (T := TX4) (N := 12) hx hb hts inw_X4 hown hK.1 hP 0 rfl rfl 0 (by decide) fl_7 (fun _ h9 => h9) rfl dX4_count_112 ?_
      refine lv_iconst (v := 4) hx hb dX4_count_115 (by decide) ?_
      refine g_iald (x := V 1 4) hx hb hK hP 1 rfl (vp_lit (by decide)) rfl dX4_count_116 ?_
      exact hend H locs _ _ _ (some_one hc) rfl hP hD hS dX4_count_117
    replace hc := ite_f c2 hc
    by_cases c3 : p1 = 2
    · replace hc := ite_t c3 hc
      refine lv_tableIn (off := 117) (tgt := 118) hx hb dX4_count_1 (by rw [c3]; decide) (by rw [c3]; decide) (by rw [c3]; rfl) (by decide) ?_
      refine lv_aload_n hx hb dX4_count_118 rfl (lv_at hl 0 rfl) ?_
      refine va_get (ci := 4) (v := .ref (a 1)) (C := RX4) (T := TX4) (N := 12) hx hb hts inw_X4 hown hK.1 hP 0 rfl rfl 0 (by decide) fl_7 (fun _ h9 => h9) rfl dX4_count_119 ?_
      refine lv_iconst (v := 0) hx hb dX4_count_122 (by decide) ?_
      refine g_iald (x := V 1 0) hx hb hK hP 1 rfl (vp_lit (by decide)) rfl dX4_count_123 ?_
      exact hend H locs _ _ _ (some_one hc) rfl hP hD hS dX4_count_124
    replace hc := ite_f c3 hc
    by_cases c4 : p1 = 3
    · replace hc := ite_t c4 hc
      refine lv_tableIn (off := 124) (tgt := 125) hx hb dX4_count_1 (by rw [c4]; decide) (by rw [c4]; decide) (by rw [c4]; rfl) (by decide) ?_
      refine lv_aload_n hx hb dX4_count_125 rfl (lv_at hl 0 rfl) ?_
      refine lv_iconst (v := 4) hx hb dX4_count_126 (by decide) ?_
      obtain ⟨x5, hc5, hc⟩ := b1_some hc
      refine gc_VI (n := 1) (q0 := 0) (ci := 4) (w' := MW cy a V) hx hb hml hown hts hK hP hD hS hA hl.1 ⟨Nat.le_refl _, Nat.le_refl _⟩ (C_X4_sum l D cy a V 4 x5 hc5) gX4_count_X4_sum rfl (by decide +kernel) rfl ⟨by decide, by decide⟩ Jn.same rfl rfl rfl (Nat.le_of_ble_eq_true rfl) dX4_count_127 (fun H locs hP hD hS => ?_)
      exact hend H locs _ _ _ (some_one hc) rfl hP hD hS dX4_count_130
    replace hc := ite_f c4 hc
    by_cases c6 : p1 = 4
    · replace hc := ite_t c6 hc
      refine lv_tableIn (off := 130) (tgt := 131) hx hb dX4_count_1 (by rw [c6]; decide) (by rw [c6]; decide) (by rw [c6]; rfl) (by decide) ?_
      refine lv_aload_n hx hb dX4_count_131 rfl (lv_at hl 0 rfl) ?_
      refine lv_bipush (v := 6) hx hb dX4_count_132 (by decide +kernel) ?_
      obtain ⟨x7, hc7, hc⟩ := b1_some hc
      refine gc_VI (n := 1) (q0 := 0) (ci := 4) (w' := MW cy a V) hx hb hml hown hts hK hP hD hS hA hl.1 ⟨Nat.le_refl _, Nat.le_refl _⟩ (C_X4_sum l D cy a V 6 x7 hc7) gX4_count_X4_sum rfl (by decide +kernel) rfl ⟨by decide, by decide⟩ Jn.same rfl rfl rfl (Nat.le_of_ble_eq_true rfl) dX4_count_134 (fun H locs hP hD hS => ?_)
      exact hend H locs _ _ _ (some_one hc) rfl hP hD hS dX4_count_137
    replace hc := ite_f c6 hc
    by_cases c8 : p1 = 5
    · replace hc := ite_t c8 hc
      refine lv_tableIn (off := 137) (tgt := 138) hx hb dX4_count_1 (by rw [c8]; decide) (by rw [c8]; decide) (by rw [c8]; rfl) (by decide) ?_
      refine lv_aload_n hx hb dX4_count_138 rfl (lv_at hl 0 rfl) ?_
      refine lv_bipush (v := 7) hx hb dX4_count_139 (by decide +kernel) ?_
      obtain ⟨x9, hc9, hc⟩ := b1_some hc
      refine gc_VI (n := 1) (q0 := 0) (ci := 4) (w' := MW cy a V) hx hb hml hown hts hK hP hD hS hA hl.1 ⟨Nat.le_refl _, Nat.le_refl _⟩ (C_X4_sum l D cy a V 7 x9 hc9) gX4_count_X4_sum rfl (by decide +kernel) rfl ⟨by decide, by decide⟩ Jn.same rfl rfl rfl (Nat.le_of_ble_eq_true rfl) dX4_count_141 (fun H locs hP hD hS => ?_)
      exact hend H locs _ _ _ (some_one hc) rfl hP hD hS dX4_count_144
    replace hc := ite_f c8 hc
    by_cases c10 : p1 = 6
    · replace hc := ite_t c10 hc
      refine lv_tableIn (off := 144) (tgt := 145) hx hb dX4_count_1 (by rw [c10]; decide) (by rw [c10]; decide) (by rw [c10]; rfl) (by decide) ?_
      refine lv_aload_n hx hb dX4_count_145 rfl (lv_at hl 0 rfl) ?_
      refine va_get (ci := 4) (v := .ref (a 1)) (C := RX4) (T := TX4) (N := 12) hx hb hts inw_X4 hown hK.1 hP 0 rfl rfl 0 (by decide) fl_7 (fun _ h9 => h9) rfl dX4_count_146 ?_
      refine lv_bipush (v := 6) hx hb dX4_count_149 (by decide +kernel) ?_
      refine g_iald (x := V 1 6) hx hb hK hP 1 rfl (vp_lit (by decide)) rfl dX4_count_151 ?_
      exact hend H locs _ _ _ (some_one hc) rfl hP hD hS dX4_count_152
    replace hc := ite_f c10 hc
    by_cases c11 : p1 = 7
    · replace hc := ite_t c11 hc
      refine lv_tableIn (off := 152) (tgt := 153) hx hb dX4_count_1 (by rw [c11]; decide) (by rw [c11]; decide) (by rw [c11]; rfl) (by decide) ?_
      refine lv_aload_n hx hb dX4_count_153 rfl (lv_at hl 0 rfl) ?_
      refine lv_bipush (v := 10) hx hb dX4_count_154 (by decide +kernel) ?_
      obtain ⟨x12, hc12, hc⟩ := b1_some hc
      refine gc_VI (n := 1) (q0 := 0) (ci := 4) (w' := MW cy a V) hx hb hml hown hts hK hP hD hS hA hl.1 ⟨Nat.le_refl _, Nat.le_refl _⟩ (C_X4_sum l D cy a V 10 x12 hc12) gX4_count_X4_sum rfl (by decide +kernel) rfl ⟨by decide, by decide⟩ Jn.same rfl rfl rfl (Nat.le_of_ble_eq_true rfl) dX4_count_156 (fun H locs hP hD hS => ?_)
      exact hend H locs _ _ _ (some_one hc) rfl hP hD hS dX4_count_159
    replace hc := ite_f c11 hc
    by_cases c13 : p1 = 8
    · replace hc := ite_t c13 hc
      refine lv_tableIn (off := 159) (tgt := 160) hx hb dX4_count_1 (by rw [c13]; decide) (by rw [c13]; decide) (by rw [c13]; rfl) (by decide) ?_
      refine lv_aload_n hx hb dX4_count_160 rfl (lv_at hl 0 rfl) ?_
      refine lv_bipush (v := 11) hx hb dX4_count_161 (by decide +kernel) ?_
      obtain ⟨x14, hc14, hc⟩ := b1_some hc
      refine gc_VI (n := 1) (q0 := 0) (ci := 4) (w' := MW cy a V) hx hb hml hown hts hK hP hD hS hA hl.1 ⟨Nat.le_refl _, Nat.le_refl _⟩ (C_X4_sum l D cy a V 11 x14 hc14) gX4_count_X4_sum rfl (by decide +kernel) rfl ⟨by decide, by decide⟩ Jn.same rfl rfl rfl (Nat.le_of_ble_eq_true rfl) dX4_count_163 (fun H locs hP hD hS => ?_)
      exact hend H locs _ _ _ (some_one hc) rfl hP hD hS dX4_count_166
    replace hc := ite_f c13 hc
    by_cases c15 : p1 = 9
    · replace hc := ite_t c15 hc
      refine lv_tableIn (off := 166) (tgt := 167) hx hb dX4_count_1 (by rw [c15]; decide) (by rw [c15]; decide) (by rw [c15]; rfl) (by decide) ?_
      refine lv_aload_n hx hb dX4_count_167 rfl (lv_at hl 0 rfl) ?_
      refine lv_iconst (v := 5) hx hb dX4_count_168 (by decide) ?_
      obtain ⟨x16, hc16, hc⟩ := b1_some hc
      refine gc_VI (n := 1) (q0 := 0) (ci := 4) (w' := MW cy a V) hx hb hml hown hts hK hP hD hS hA hl.1 ⟨Nat.le_refl _, Nat.le_refl _⟩ (C_X4_sum l D cy a V 5 x16 hc16) gX4_count_X4_sum rfl (by decide +kernel) rfl ⟨by decide, by decide⟩ Jn.same rfl rfl rfl (Nat.le_of_ble_eq_true rfl) dX4_count_169 (fun H locs hP hD hS => ?_)
      exact hend H locs _ _ _ (some_one hc) rfl hP hD hS dX4_count_172
    replace hc := ite_f c15 hc
    by_cases c17 : p1 = 10
    · replace hc := ite_t c17 hc
      refine lv_tableIn (off := 172) (tgt := 173) hx hb dX4_count_1 (by rw [c17]; decide) (by rw [c17]; decide) (by rw [c17]; rfl) (by decide) ?_
      refine lv_aload_n hx hb dX4_count_173 rfl (lv_at hl 0 rfl) ?_
      refine va_get (ci := 4) (v := .ref (a 1)) (C := RX4) (T := TX4) (N := 12) hx hb hts inw_X4 hown hK.1 hP 0 rfl rfl 0 (by decide) fl_7 (fun _ h9 => h9) rfl dX4_count_174 ?_
      refine lv_iconst (v := 5) hx hb dX4_count_177 (by decide) ?_
      refine g_iald (x := V 1 5) hx hb hK hP 1 rfl (vp_lit (by decide)) rfl dX4_count_178 ?_
      exact hend H locs _ _ _ (some_one hc) rfl hP hD hS dX4_count_179
    replace hc := ite_f c17 hc
    by_cases c18 : p1 = 11
    · replace hc := ite_t c18 hc
      refine lv_tableIn (off := 179) (tgt := 180) hx hb dX4_count_1 (by rw [c18]; decide) (by rw [c18]; decide) (by rw [c18]; rfl) (by decide) ?_
      refine lv_aload_n hx hb dX4_count_180 rfl (lv_at hl 0 rfl) ?_
      refine va_get (ci := 4) (v := .ref (a 1)) (C := RX4) (T := TX4) (N := 12) hx hb hts inw_X4 hown hK.1 hP 0 rfl rfl 0 (by decide) fl_7 (fun _ h9 => h9) rfl dX4_count_181 ?_
      refine lv_bipush (v := 7) hx hb dX4_count_184 (by decide +kernel) ?_
      refine g_iald (x := V 1 7) hx hb hK hP 1 rfl (vp_lit (by decide)) rfl dX4_count_186 ?_
      exact hend H locs _ _ _ (some_one hc) rfl hP hD hS dX4_count_187
    replace hc := ite_f c18 hc
    by_cases c19 : p1 = 12
    · replace hc := ite_t c19 hc
      refine lv_tableIn (off := 187) (tgt := 188) hx hb dX4_count_1 (by rw [c19]; decide) (by rw [c19]; decide) (by rw [c19]; rfl) (by decide) ?_
      refine lv_aload_n hx hb dX4_count_188 rfl (lv_at hl 0 rfl) ?_
      refine va_get (ci := 4) (v := .ref (a 1)) (C := RX4) (T := TX4) (N := 12) hx hb hts inw_X4 hown hK.1 hP 0 rfl rfl 0 (by decide) fl_7 (fun _ h9 => h9) rfl dX4_count_189 ?_
      refine lv_iconst (v := 1) hx hb dX4_count_192 (by decide) ?_
      refine g_iald (x := V 1 1) hx hb hK hP 1 rfl (vp_lit (by decide)) rfl dX4_count_193 ?_
      refine lv_aload_n hx hb dX4_count_194 rfl (lv_at hl 0 rfl) ?_
      refine va_get (ci := 4) (v := .ref (a 1)) (C := RX4) (T := TX4) (N := 12) hx hb hts inw_X4 hown hK.1 hP 0 rfl rfl 0 (by decide) fl_7 (fun _ h9 => h9) rfl dX4_count_195 ?_
      refine lv_iconst (v := 0) hx hb dX4_count_198 (by decide) ?_
      refine g_iald (x := V 1 0) hx hb hK hP 1 rfl (vp_lit (by decide)) rfl dX4_count_199 ?_
      refine lv_aload_n hx hb dX4_count_200 rfl (lv_at hl 0 rfl) ?_
      refine va_get (ci := 4) (v := .ref (a 1)) (C := RX4) (T := TX4) (N := 12) hx hb hts inw_X4 hown hK.1 hP 0 rfl rfl 0 (by decide) fl_7 (fun _ h9 => h9) rfl dX4_count_201 ?_
      refine lv_iconst (v := 1) hx hb dX4_count_204 (by decide) ?_
      refine g_iald (x := V 1 1) hx hb hK hP 1 rfl (vp_lit (by decide)) rfl dX4_count_205 ?_
      obtain ⟨hz20, hc⟩ := nz_some hc
      refine lv_irem hx hb dX4_count_206 hz20 ?_
      refine lv_isub hx hb dX4_count_207 ?_
      exact hend H locs _ _ _ (some_one hc) rfl hP hD hS dX4_count_208
    replace hc := ite_f c19 hc
    by_cases c21 : p1 = 13
    · replace hc := ite_t c21 hc
      refine lv_tableIn (off := 208) (tgt := 209) hx hb dX4_count_1 (by rw [c21]; decide) (by rw [c21]; decide) (by rw [c21]; rfl) (by decide) ?_
      refine lv_aload_n hx hb dX4_count_209 rfl (lv_at hl 0 rfl) ?_
      refine va_get (ci := 4) (v := .int (V 0 0)) (C := RX4) (T := TX4) (N := 12) hx hb hts inw_X4 hown hK.1 hP 0 rfl rfl 4 (by decide) fl_29 (fun _ h9 => h9) rfl dX4_count_210 ?_
      exact hend H locs _ _ _ (some_one hc) rfl hP hD hS dX4_count_213
    replace hc := ite_f c21 hc
    by_cases c22 : p1 = 14
    · replace hc := ite_t c22 hc
      refine lv_tableIn (off := 213) (tgt := 214) hx hb dX4_count_1 (by rw [c22]; decide) (by rw [c22]; decide) (by rw [c22]; rfl) (by decide) ?_
      refine lv_aload_n hx hb dX4_count_214 rfl (lv_at hl 0 rfl) ?_
      refine va_get (ci := 4) (v := .int (V 0 2)) (C := RX4) (T := TX4) (N := 12) hx hb hts inw_X4 hown hK.1 hP 0 rfl rfl 6 (by decide) fl_131 (fun _ h9 => h9) rfl dX4_count_215 ?_
      exact hend H locs _ _ _ (some_one hc) rfl hP hD hS dX4_count_218
    replace hc := ite_f c22 hc
    by_cases c23 : p1 = 20
    · replace hc := ite_t c23 hc
      refine lv_tableIn (off := 218) (tgt := 219) hx hb dX4_count_1 (by rw [c23]; decide) (by rw [c23]; decide) (by rw [c23]; rfl) (by decide) ?_
      refine lv_aload_n hx hb dX4_count_219 rfl (lv_at hl 0 rfl) ?_
      refine va_get (ci := 4) (v := .ref (a 1)) (C := RX4) (T := TX4) (N := 12) hx hb hts inw_X4 hown hK.1 hP 0 rfl rfl 0 (by decide) fl_7 (fun _ h9 => h9) rfl dX4_count_220 ?_
      refine lv_iconst (v := 1) hx hb dX4_count_223 (by decide) ?_
      refine g_iald (x := V 1 1) hx hb hK hP 1 rfl (vp_lit (by decide)) rfl dX4_count_224 ?_
      exact hend H locs _ _ _ (some_one hc) rfl hP hD hS dX4_count_225
    replace hc := ite_f c23 hc
    by_cases c24 : p1 = 21
    · replace hc := ite_t c24 hc
      refine lv_tableIn (off := 225) (tgt := 226) hx hb dX4_count_1 (by rw [c24]; decide) (by rw [c24]; decide) (by rw [c24]; rfl) (by decide) ?_
      refine lv_aload_n hx hb dX4_count_226 rfl (lv_at hl 0 rfl) ?_
      refine va_get (ci := 4) (v := .ref (a 1)) (C := RX4) (T := TX4) (N := 12) hx hb hts inw_X4 hown hK.1 hP 0 rfl rfl 0 (by decide) fl_7 (fun _ h9 => h9) rfl dX4_count_227 ?_
      refine lv_iconst (v := 2) hx hb dX4_count_230 (by decide) ?_
      refine g_iald (x := V 1 2) hx hb hK hP 1 rfl (vp_lit (by decide)) rfl dX4_count_231 ?_
      exact hend H locs _ _ _ (some_one hc) rfl hP hD hS dX4_count_232
    replace hc := ite_f c24 hc
    rcases sw_count c1 c2 c3 c4 c6 c8 c10 c11 c13 c15 c17 c18 c19 c21 c22 c23 c24 with h25 | ⟨o25, h25⟩
    · refine lv_tableOut (tgt := 233) hx hb dX4_count_1 h25 (by decide) ?_
      refine lv_iconst (v := (-1)) hx hb dX4_count_233 (by decide) ?_
      exact hend H locs _ _ _ (some_one hc) rfl hP hD hS dX4_count_234
    · refine lv_tableIn (off := 232) (tgt := 233) hx hb dX4_count_1 h25.1 h25.2.1 (by rw [h25.2.2.1]; rcases h25.2.2.2 with h9 | h9 | h9 | h9 | h9 <;> rw [h9] <;> rfl) (by decide) ?_
      refine lv_iconst (v := (-1)) hx hb dX4_count_233 (by decide) ?_
      exact hend H locs _ _ _ (some_one hc) rfl hP hD hS dX4_count_234
  rw [hHe, hLe] at goal0
  exact goal0
set_option maxHeartbeats 4000000 in
set_option maxRecDepth 100000 in
theorem C_X4_here (l : Launch) (D : va_G) (cy : Nat → ClassId) (a : Nat → Nat) (V : FV) (r : Int32) (hc : f_X4_here V = some r) : ConI l yX4_here wsX4_here 0 0 D cy (MW cy a) [.ref (a 0)] V V r := by
  refine bodyI (cc := cX4_here) (maxL := 1) (ty := .int) (by decide +kernel) rfl (Nat.le_of_ble_eq_true rfl) ?_
  intro p e s m args below meth c A Q hx hb hml hts hown hK hP hD hA hS hend ls hl
  have hown : s.vm.findClass RX4 = some m.cls := hown
  have hP : va_P D vwCl (MW cy a V) s.heap := hP
  have hD : va_D A (MW cy a V) := hD
  have hl : lv_has ls 1 [(0, .ref (a 0))] := hl
  have hend : ∀ (H : Heap) (locs : List Loc) (pc : Nat) (ls : Array Slot) (v : Int32), v = r → narrow .int (.int v) = .int v → va_P D vwCl (MW cy a V) H → va_D A (MW cy a V) → va_S A s.heap H locs → decode cX4_here pc = .ok (.ireturn, 1) → W p l e (RM 0 0) s m args below meth c H locs 0 0 Q (F0 m pc ls [.int v]) := fun H locs pc ls v h1 h3 h4 h5 h6 h7 => hend H locs pc ls v V h1 rfl h3 h4 h5 h6 h7
  have fl_134 := hts (.fieldLink RX4 134 "NoonWellsModel" "readAt" "I") (by decide +kernel)
  have inw_X4 := (by decide +kernel : ∀ w ∈ u_ws RX4 TX4 12, w ∈ wsX4_here)
  have fl_131 := hts (.fieldLink RX4 131 "NoonWellsModel" "letters" "I") (by decide +kernel)
  have fl_19 := hts (.fieldLink RX4 19 "NoonWellsModel" "text" "[I") (by decide +kernel)
  obtain ⟨H, hHe⟩ : ∃ H : Heap, H = s.heap := ⟨_, rfl⟩
  obtain ⟨locs, hLe⟩ : ∃ x : List Loc, x = [] := ⟨_, rfl⟩
  have hP : va_P D vwCl (MW cy a V) H := by rw [hHe]; exact hP
  have hS : va_S A s.heap H locs := by rw [hHe, hLe]; exact hS
  have goal0 : W p l e (RM 0 0) s m args below meth c H locs 0 0 Q (F0 m 0 ls []) := by
    refine lv_aload_n hx hb dX4_here_0 rfl (lv_at hl 0 rfl) ?_
    refine va_get (ci := 4) (v := .int (V 0 3)) (C := RX4) (T := TX4) (N := 12) hx hb hts inw_X4 hown hK.1 hP 0 rfl rfl 7 (by decide) fl_134 (fun _ h9 => h9) rfl dX4_here_1 ?_
    refine lv_aload_n hx hb dX4_here_4 rfl (lv_at hl 0 rfl) ?_
    refine va_get (ci := 4) (v := .int (V 0 2)) (C := RX4) (T := TX4) (N := 12) hx hb hts inw_X4 hown hK.1 hP 0 rfl rfl 6 (by decide) fl_131 (fun _ h9 => h9) rfl dX4_here_5 ?_
    refine lv_icmp_ge (tgt := 23) hx hb dX4_here_8 (by decide) (fun c1 => ?_) (fun c1 => ?_)
    · replace hc := ite_t c1 hc
      refine lv_iconst (v := 0) hx hb dX4_here_23 (by decide) ?_
      exact hend H locs _ _ _ (some_one hc) rfl hP hD hS dX4_here_24
    · replace hc := ite_f c1 hc
      refine lv_aload_n hx hb dX4_here_11 rfl (lv_at hl 0 rfl) ?_
      refine va_get (ci := 4) (v := .ref (a 4)) (C := RX4) (T := TX4) (N := 12) hx hb hts inw_X4 hown hK.1 hP 0 rfl rfl 3 (by decide) fl_19 (fun _ h9 => h9) rfl dX4_here_12 ?_
      refine lv_aload_n hx hb dX4_here_15 rfl (lv_at hl 0 rfl) ?_
      refine va_get (ci := 4) (v := .int (V 0 3)) (C := RX4) (T := TX4) (N := 12) hx hb hts inw_X4 hown hK.1 hP 0 rfl rfl 7 (by decide) fl_134 (fun _ h9 => h9) rfl dX4_here_16 ?_
      obtain ⟨x2, hi2, hv2, hc⟩ := rd_some hc
      refine g_iald (x := x2) hx hb hK hP 4 rfl hi2 hv2 dX4_here_19 ?_
      refine lv_goto (tgt := 24) hx hb dX4_here_20 (by decide) ?_
      exact hend H locs _ _ _ (some_one hc) rfl hP hD hS dX4_here_24
  rw [hHe, hLe] at goal0
  exact goal0
set_option maxHeartbeats 4000000 in
set_option maxRecDepth 100000 in
theorem C_X4_copy (l : Launch) (D : va_G) (cy : Nat → ClassId) (a : Nat → Nat) (V : FV) (V' : FV) (hc : f_X4_copy V = some V') : ConV l yX4_copy wsX4_copy 0 0 D cy (MW cy a) [.ref (a 0)] V V' := by
  refine bodyV (cc := cX4_copy) (maxL := 2) (by decide +kernel) rfl (Nat.le_of_ble_eq_true rfl) ?_
  intro p e s m args below meth c A Q hx hb hml hts hown hK hP hD hA hS hend ls hl
  have hown : s.vm.findClass RX4 = some m.cls := hown
  have hP : va_P D vwCl (MW cy a V) s.heap := hP
  have hD : va_D A (MW cy a V) := hD
  have hl : lv_has ls 2 [(0, .ref (a 0))] := hl
  have hend : ∀ (H : Heap) (locs : List Loc) (pc : Nat) (ls : Array Slot) (V : FV), V = V' → va_P D vwCl (MW cy a V) H → va_D A (MW cy a V) → va_S A s.heap H locs → decode cX4_copy pc = .ok (.return_, 1) → W p l e (RM 0 0) s m args below meth c H locs 0 0 Q (F0 m pc ls []) := fun H locs pc ls V h1 h2 h3 h4 h5 => hend H locs pc ls V h1 h2 h3 h4 h5
  have fl_13 := hts (.fieldLink RX4 13 "NoonWellsModel" "before" "[I") (by decide +kernel)
  have inw_X4 := (by decide +kernel : ∀ w ∈ u_ws RX4 TX4 12, w ∈ wsX4_copy)
  have fl_7 := hts (.fieldLink RX4 7 "NoonWellsModel" "now" "[I") (by decide +kernel)
  have L2 : ∀ (n : Nat), ∀ (y1 : Int32) (V : FV) (H : Heap) (locs : List Loc) (ls : Array Slot), f_X4_copy_L2 n y1 V = some V' → va_P D vwCl (MW cy a V) H → va_D A (MW cy a V) → va_S A s.heap H locs → lv_has ls 2 [(0, .ref (a 0)), (1, .int y1)] → W p l e (RM 0 0) s m args below meth c H locs 0 0 Q (F0 m 2 ls []) := by
    intro n
    induction n with
    | zero =>
      intro y1 V H locs ls hc
      cases hc
    | succ n ih =>
      intro y1 V H locs ls hc hP hD hS hl
      refine lv_iload_n hx hb dX4_copy_2 rfl (lv_at hl 1 rfl) ?_
      refine lv_sipush (v := 236) hx hb dX4_copy_3 (by decide +kernel) ?_
      refine lv_icmp_ge (tgt := 27) hx hb dX4_copy_6 (by decide) (fun c1 => ?_) (fun c1 => ?_)
      · replace hc := ite_t c1 hc
        exact hend H locs _ _ _ (some_one hc) hP hD hS dX4_copy_27
      · replace hc := ite_f c1 hc
        refine lv_aload_n hx hb dX4_copy_9 rfl (lv_at hl 0 rfl) ?_
        refine va_get (ci := 4) (v := .ref (a 2)) (C := RX4) (T := TX4) (N := 12) hx hb hts inw_X4 hown hK.1 hP 0 rfl rfl 1 (by decide) fl_13 (fun _ h9 => h9) rfl dX4_copy_10 ?_
        refine lv_iload_n hx hb dX4_copy_13 rfl (lv_at hl 1 rfl) ?_
        refine lv_aload_n hx hb dX4_copy_14 rfl (lv_at hl 0 rfl) ?_
        refine va_get (ci := 4) (v := .ref (a 1)) (C := RX4) (T := TX4) (N := 12) hx hb hts inw_X4 hown hK.1 hP 0 rfl rfl 0 (by decide) fl_7 (fun _ h9 => h9) rfl dX4_copy_15 ?_
        refine lv_iload_n hx hb dX4_copy_18 rfl (lv_at hl 1 rfl) ?_
        obtain ⟨x2, hi2, hv2, hc⟩ := rd_some hc
        refine g_iald (x := x2) hx hb hK hP 1 rfl hi2 hv2 dX4_copy_19 ?_
        obtain ⟨V3, hi3, eV3, hc⟩ := wr_some hc
        refine g_iast (w' := MW cy a V3) hx hb hK hP hD hS 2 rfl hi3 (by rw [← eV3]; rfl) dX4_copy_20 (fun H locs hP hD hS => ?_)
        refine lv_iinc (v := y1 + 1) (lv' := [(1, .int (y1 + 1)), (0, .ref (a 0))]) hx hb dX4_copy_21 hl (k := 1) rfl rfl (by decide) rfl (fun ls hl => ?_)
        refine lv_goto (tgt := 2) hx hb dX4_copy_24 (by decide) ?_
        exact ih (y1 + 1) V3 H locs ls hc hP hD hS (lv_sub hl [1, 0] rfl)
  obtain ⟨H, hHe⟩ : ∃ H : Heap, H = s.heap := ⟨_, rfl⟩
  obtain ⟨locs, hLe⟩ : ∃ x : List Loc, x = [] := ⟨_, rfl⟩
  have hP : va_P D vwCl (MW cy a V) H := by rw [hHe]; exact hP
  have hS : va_S A s.heap H locs := by rw [hHe, hLe]; exact hS
  have goal0 : W p l e (RM 0 0) s m args below meth c H locs 0 0 Q (F0 m 0 ls []) := by
    refine lv_iconst (v := 0) hx hb dX4_copy_0 (by decide) ?_
    refine lv_istore_n (lv' := [(1, .int 0), (0, .ref (a 0))]) hx hb dX4_copy_1 rfl hl (by decide) rfl (fun ls hl => ?_)
    exact L2 FUEL 0 V H locs ls hc hP hD hS (lv_sub hl [1, 0] rfl)
  rw [hHe, hLe] at goal0
  exact goal0
set_option maxHeartbeats 4000000 in
set_option maxRecDepth 100000 in
theorem C_X4_back (l : Launch) (D : va_G) (cy : Nat → ClassId) (a : Nat → Nat) (V : FV) (V' : FV) (hc : f_X4_back V = some V') : ConV l yX4_back wsX4_back 0 0 D cy (MW cy a) [.ref (a 0)] V V' := by
  refine bodyV (cc := cX4_back) (maxL := 2) (by decide +kernel) rfl (Nat.le_of_ble_eq_true rfl) ?_
  intro p e s m args below meth c A Q hx hb hml hts hown hK hP hD hA hS hend ls hl
  have hown : s.vm.findClass RX4 = some m.cls := hown
  have hP : va_P D vwCl (MW cy a V) s.heap := hP
  have hD : va_D A (MW cy a V) := hD
  have hl : lv_has ls 2 [(0, .ref (a 0))] := hl
  have hend : ∀ (H : Heap) (locs : List Loc) (pc : Nat) (ls : Array Slot) (V : FV), V = V' → va_P D vwCl (MW cy a V) H → va_D A (MW cy a V) → va_S A s.heap H locs → decode cX4_back pc = .ok (.return_, 1) → W p l e (RM 0 0) s m args below meth c H locs 0 0 Q (F0 m pc ls []) := fun H locs pc ls V h1 h2 h3 h4 h5 => hend H locs pc ls V h1 h2 h3 h4 h5
  have fl_7 := hts (.fieldLink RX4 7 "NoonWellsModel" "now" "[I") (by decide +kernel)
  have inw_X4 := (by decide +kernel : ∀ w ∈ u_ws RX4 TX4 12, w ∈ wsX4_back)
  have fl_13 := hts (.fieldLink RX4 13 "NoonWellsModel" "before" "[I") (by decide +kernel)
  have L2 : ∀ (n : Nat), ∀ (y1 : Int32) (V : FV) (H : Heap) (locs : List Loc) (ls : Array Slot), f_X4_back_L2 n y1 V = some V' → va_P D vwCl (MW cy a V) H → va_D A (MW cy a V) → va_S A s.heap H locs → lv_has ls 2 [(0, .ref (a 0)), (1, .int y1)] → W p l e (RM 0 0) s m args below meth c H locs 0 0 Q (F0 m 2 ls []) := by
    intro n
    induction n with
    | zero =>
      intro y1 V H locs ls hc
      cases hc
    | succ n ih =>
      intro y1 V H locs ls hc hP hD hS hl
      refine lv_iload_n hx hb dX4_back_2 rfl (lv_at hl 1 rfl) ?_
      refine lv_sipush (v := 236) hx hb dX4_back_3 (by decide +kernel) ?_
      refine lv_icmp_ge (tgt := 27) hx hb dX4_back_6 (by decide) (fun c1 => ?_) (fun c1 => ?_)
      · replace hc := ite_t c1 hc
        exact hend H locs _ _ _ (some_one hc) hP hD hS dX4_back_27
      · replace hc := ite_f c1 hc
        refine lv_aload_n hx hb dX4_back_9 rfl (lv_at hl 0 rfl) ?_
        refine va_get (ci := 4) (v := .ref (a 1)) (C := RX4) (T := TX4) (N := 12) hx hb hts inw_X4 hown hK.1 hP 0 rfl rfl 0 (by decide) fl_7 (fun _ h9 => h9) rfl dX4_back_10 ?_
        refine lv_iload_n hx hb dX4_back_13 rfl (lv_at hl 1 rfl) ?_
        refine lv_aload_n hx hb dX4_back_14 rfl (lv_at hl 0 rfl) ?_
        refine va_get (ci := 4) (v := .ref (a 2)) (C := RX4) (T := TX4) (N := 12) hx hb hts inw_X4 hown hK.1 hP 0 rfl rfl 1 (by decide) fl_13 (fun _ h9 => h9) rfl dX4_back_15 ?_
        refine lv_iload_n hx hb dX4_back_18 rfl (lv_at hl 1 rfl) ?_
        obtain ⟨x2, hi2, hv2, hc⟩ := rd_some hc
        refine g_iald (x := x2) hx hb hK hP 2 rfl hi2 hv2 dX4_back_19 ?_
        obtain ⟨V3, hi3, eV3, hc⟩ := wr_some hc
        refine g_iast (w' := MW cy a V3) hx hb hK hP hD hS 1 rfl hi3 (by rw [← eV3]; rfl) dX4_back_20 (fun H locs hP hD hS => ?_)
        refine lv_iinc (v := y1 + 1) (lv' := [(1, .int (y1 + 1)), (0, .ref (a 0))]) hx hb dX4_back_21 hl (k := 1) rfl rfl (by decide) rfl (fun ls hl => ?_)
        refine lv_goto (tgt := 2) hx hb dX4_back_24 (by decide) ?_
        exact ih (y1 + 1) V3 H locs ls hc hP hD hS (lv_sub hl [1, 0] rfl)
  obtain ⟨H, hHe⟩ : ∃ H : Heap, H = s.heap := ⟨_, rfl⟩
  obtain ⟨locs, hLe⟩ : ∃ x : List Loc, x = [] := ⟨_, rfl⟩
  have hP : va_P D vwCl (MW cy a V) H := by rw [hHe]; exact hP
  have hS : va_S A s.heap H locs := by rw [hHe, hLe]; exact hS
  have goal0 : W p l e (RM 0 0) s m args below meth c H locs 0 0 Q (F0 m 0 ls []) := by
    refine lv_iconst (v := 0) hx hb dX4_back_0 (by decide) ?_
    refine lv_istore_n (lv' := [(1, .int 0), (0, .ref (a 0))]) hx hb dX4_back_1 rfl hl (by decide) rfl (fun ls hl => ?_)
    exact L2 FUEL 0 V H locs ls hc hP hD hS (lv_sub hl [1, 0] rfl)
  rw [hHe, hLe] at goal0
  exact goal0
set_option maxHeartbeats 4000000 in
set_option maxRecDepth 100000 in
theorem C_X4_recorded (l : Launch) (D : va_G) (cy : Nat → ClassId) (a : Nat → Nat) (V : FV) (p1 : Int32) (r : Int32) (V' : FV) (hc : f_X4_recorded V p1 = some (r, V')) : ConI l yX4_recorded wsX4_recorded 0 0 D cy (MW cy a) [.ref (a 0), .int p1] V V' r := by
  refine bodyI (cc := cX4_recorded) (maxL := 3) (ty := .int) (by decide +kernel) rfl (Nat.le_of_ble_eq_true rfl) ?_
  intro p e s m args below meth c A Q hx hb hml hts hown hK hP hD hA hS hend ls hl
  have hown : s.vm.findClass RX4 = some m.cls := hown
  have hP : va_P D vwCl (MW cy a V) s.heap := hP
  have hD : va_D A (MW cy a V) := hD
  have hl : lv_has ls 3 [(0, .ref (a 0)), (1, .int p1)] := hl
  have hend : ∀ (H : Heap) (locs : List Loc) (pc : Nat) (ls : Array Slot) (v : Int32) (V : FV), v = r → V = V' → narrow .int (.int v) = .int v → va_P D vwCl (MW cy a V) H → va_D A (MW cy a V) → va_S A s.heap H locs → decode cX4_recorded pc = .ok (.ireturn, 1) → W p l e (RM 0 0) s m args below meth c H locs 0 0 Q (F0 m pc ls [.int v]) := fun H locs pc ls v V h1 h2 h3 h4 h5 h6 h7 => hend H locs pc ls v V h1 h2 h3 h4 h5 h6 h7
  have fl_25 := hts (.fieldLink RX4 25 "NoonWellsModel" "stateAt" "I") (by decide +kernel)
  have inw_X4 := (by decide +kernel : ∀ w ∈ u_ws RX4 TX4 12, w ∈ wsX4_recorded)
  have fl_29 := hts (.fieldLink RX4 29 "NoonWellsModel" "stateMany" "I") (by decide +kernel)
  have fl_16 := hts (.fieldLink RX4 16 "NoonWellsModel" "states" "[I") (by decide +kernel)
  have fl_13 := hts (.fieldLink RX4 13 "NoonWellsModel" "before" "[I") (by decide +kernel)
  have L6 : ∀ (n : Nat), ∀ (y1 y2 : Int32) (V : FV) (H : Heap) (locs : List Loc) (ls : Array Slot), f_X4_recorded_L6 n y1 y2 V = some (r, V') → va_P D vwCl (MW cy a V) H → va_D A (MW cy a V) → va_S A s.heap H locs → lv_has ls 3 [(0, .ref (a 0)), (1, .int y1), (2, .int y2)] → W p l e (RM 0 0) s m args below meth c H locs 0 0 Q (F0 m 6 ls []) := by
    intro n
    induction n with
    | zero =>
      intro y1 y2 V H locs ls hc
      cases hc
    | succ n ih =>
      intro y1 y2 V H locs ls hc hP hD hS hl
      refine lv_iload_n hx hb dX4_recorded_6 rfl (lv_at hl 2 rfl) ?_
      refine lv_sipush (v := 236) hx hb dX4_recorded_7 (by decide +kernel) ?_
      refine lv_icmp_ge (tgt := 40) hx hb dX4_recorded_10 (by decide) (fun c2 => ?_) (fun c2 => ?_)
      · replace hc := ite_t c2 hc
        refine lv_aload_n hx hb dX4_recorded_40 rfl (lv_at hl 0 rfl) ?_
        refine lv_aload_n hx hb dX4_recorded_41 rfl (lv_at hl 0 rfl) ?_
        refine va_get (ci := 4) (v := .int (V 0 1)) (C := RX4) (T := TX4) (N := 12) hx hb hts inw_X4 hown hK.1 hP 0 rfl rfl 5 (by decide) fl_25 (fun _ h9 => h9) rfl dX4_recorded_42 ?_
        refine lv_iconst (v := 1) hx hb dX4_recorded_45 (by decide) ?_
        refine lv_iadd hx hb dX4_recorded_46 ?_
        refine lv_iconst (v := 4) hx hb dX4_recorded_47 (by decide) ?_
        refine lv_irem hx hb dX4_recorded_48 (by decide) ?_
        obtain ⟨V3, eV3, hc⟩ := lt1_some hc
        refine g_put (ci := 4) (C := RX4) (T := TX4) (N := 12) (w' := MW cy a V3) hx hb hts inw_X4 tyX4 tyX4_ok nmX4 hown hK hP hD hS 0 rfl rfl 5 (by decide) fl_25 (fun _ h9 => h9) rfl (by decide +kernel) (Nat.le_of_ble_eq_true rfl) (by rw [← eV3]; rfl) dX4_recorded_49 (fun H locs hP hD hS => ?_)
        refine lv_aload_n hx hb dX4_recorded_52 rfl (lv_at hl 0 rfl) ?_
        refine lv_aload_n hx hb dX4_recorded_53 rfl (lv_at hl 0 rfl) ?_
        refine va_get (ci := 4) (v := .int (V3 0 0)) (C := RX4) (T := TX4) (N := 12) hx hb hts inw_X4 hown hK.1 hP 0 rfl rfl 4 (by decide) fl_29 (fun _ h9 => h9) rfl dX4_recorded_54 ?_
        refine lv_iconst (v := 4) hx hb dX4_recorded_57 (by decide) ?_
        refine lv_icmp_ge (tgt := 70) hx hb dX4_recorded_58 (by decide) (fun c4 => ?_) (fun c4 => ?_)
        · replace hc := ite_t c4 hc
          refine lv_iconst (v := 4) hx hb dX4_recorded_70 (by decide) ?_
          obtain ⟨V5, eV5, hc⟩ := lt1_some hc
          refine g_put (ci := 4) (C := RX4) (T := TX4) (N := 12) (w' := MW cy a V5) hx hb hts inw_X4 tyX4 tyX4_ok nmX4 hown hK hP hD hS 0 rfl rfl 4 (by decide) fl_29 (fun _ h9 => h9) rfl (by decide +kernel) (Nat.le_of_ble_eq_true rfl) (by rw [← eV5]; rfl) dX4_recorded_71 (fun H locs hP hD hS => ?_)
          refine lv_iload_n hx hb dX4_recorded_74 rfl (lv_at hl 1 rfl) ?_
          exact hend H locs _ _ _ _ (some_fst hc) (some_snd hc) rfl hP hD hS dX4_recorded_75
        · replace hc := ite_f c4 hc
          refine lv_aload_n hx hb dX4_recorded_61 rfl (lv_at hl 0 rfl) ?_
          refine va_get (ci := 4) (v := .int (V3 0 0)) (C := RX4) (T := TX4) (N := 12) hx hb hts inw_X4 hown hK.1 hP 0 rfl rfl 4 (by decide) fl_29 (fun _ h9 => h9) rfl dX4_recorded_62 ?_
          refine lv_iconst (v := 1) hx hb dX4_recorded_65 (by decide) ?_
          refine lv_iadd hx hb dX4_recorded_66 ?_
          refine lv_goto (tgt := 71) hx hb dX4_recorded_67 (by decide) ?_
          obtain ⟨V6, eV6, hc⟩ := lt1_some hc
          refine g_put (ci := 4) (C := RX4) (T := TX4) (N := 12) (w' := MW cy a V6) hx hb hts inw_X4 tyX4 tyX4_ok nmX4 hown hK hP hD hS 0 rfl rfl 4 (by decide) fl_29 (fun _ h9 => h9) rfl (by decide +kernel) (Nat.le_of_ble_eq_true rfl) (by rw [← eV6]; rfl) dX4_recorded_71 (fun H locs hP hD hS => ?_)
          refine lv_iload_n hx hb dX4_recorded_74 rfl (lv_at hl 1 rfl) ?_
          exact hend H locs _ _ _ _ (some_fst hc) (some_snd hc) rfl hP hD hS dX4_recorded_75
      · replace hc := ite_f c2 hc
        refine lv_aload_n hx hb dX4_recorded_13 rfl (lv_at hl 0 rfl) ?_
        refine va_get (ci := 4) (v := .ref (a 3)) (C := RX4) (T := TX4) (N := 12) hx hb hts inw_X4 hown hK.1 hP 0 rfl rfl 2 (by decide) fl_16 (fun _ h9 => h9) rfl dX4_recorded_14 ?_
        refine lv_sipush (v := 236) hx hb dX4_recorded_17 (by decide +kernel) ?_
        refine lv_aload_n hx hb dX4_recorded_20 rfl (lv_at hl 0 rfl) ?_
        refine va_get (ci := 4) (v := .int (V 0 1)) (C := RX4) (T := TX4) (N := 12) hx hb hts inw_X4 hown hK.1 hP 0 rfl rfl 5 (by decide) fl_25 (fun _ h9 => h9) rfl dX4_recorded_21 ?_
        refine lv_imul hx hb dX4_recorded_24 ?_
        refine lv_iload_n hx hb dX4_recorded_25 rfl (lv_at hl 2 rfl) ?_
        refine lv_iadd hx hb dX4_recorded_26 ?_
        refine lv_aload_n hx hb dX4_recorded_27 rfl (lv_at hl 0 rfl) ?_
        refine va_get (ci := 4) (v := .ref (a 2)) (C := RX4) (T := TX4) (N := 12) hx hb hts inw_X4 hown hK.1 hP 0 rfl rfl 1 (by decide) fl_13 (fun _ h9 => h9) rfl dX4_recorded_28 ?_
        refine lv_iload_n hx hb dX4_recorded_31 rfl (lv_at hl 2 rfl) ?_
        obtain ⟨x7, hi7, hv7, hc⟩ := rd_some hc
        refine g_iald (x := x7) hx hb hK hP 2 rfl hi7 hv7 dX4_recorded_32 ?_
        obtain ⟨V8, hi8, eV8, hc⟩ := wr_some hc
        refine g_iast (w' := MW cy a V8) hx hb hK hP hD hS 3 rfl hi8 (by rw [← eV8]; rfl) dX4_recorded_33 (fun H locs hP hD hS => ?_)
        refine lv_iinc (v := y2 + 1) (lv' := [(2, .int (y2 + 1)), (0, .ref (a 0)), (1, .int y1)]) hx hb dX4_recorded_34 hl (k := 2) rfl rfl (by decide) rfl (fun ls hl => ?_)
        refine lv_goto (tgt := 6) hx hb dX4_recorded_37 (by decide) ?_
        exact ih y1 (y2 + 1) V8 H locs ls hc hP hD hS (lv_sub hl [1, 2, 0] rfl)
  obtain ⟨H, hHe⟩ : ∃ H : Heap, H = s.heap := ⟨_, rfl⟩
  obtain ⟨locs, hLe⟩ : ∃ x : List Loc, x = [] := ⟨_, rfl⟩
  have hP : va_P D vwCl (MW cy a V) H := by rw [hHe]; exact hP
  have hS : va_S A s.heap H locs := by rw [hHe, hLe]; exact hS
  have goal0 : W p l e (RM 0 0) s m args below meth c H locs 0 0 Q (F0 m 0 ls []) := by
    refine lv_iload_n hx hb dX4_recorded_0 rfl (lv_at hl 1 rfl) ?_
    refine lv_if_lt (tgt := 74) hx hb dX4_recorded_1 (by decide) (fun c1 => ?_) (fun c1 => ?_)
    · replace hc := ite_t c1 hc
      refine lv_iload_n hx hb dX4_recorded_74 rfl (lv_at hl 1 rfl) ?_
      exact hend H locs _ _ _ _ (some_fst hc) (some_snd hc) rfl hP hD hS dX4_recorded_75
    · replace hc := ite_f c1 hc
      refine lv_iconst (v := 0) hx hb dX4_recorded_4 (by decide) ?_
      refine lv_istore_n (lv' := [(2, .int 0), (0, .ref (a 0)), (1, .int p1)]) hx hb dX4_recorded_5 rfl hl (by decide) rfl (fun ls hl => ?_)
      exact L6 FUEL p1 0 V H locs ls hc hP hD hS (lv_sub hl [1, 2, 0] rfl)
  rw [hHe, hLe] at goal0
  exact goal0
set_option maxHeartbeats 4000000 in
set_option maxRecDepth 100000 in
theorem C_X4_undo (l : Launch) (D : va_G) (cy : Nat → ClassId) (a : Nat → Nat) (V : FV) (r : Int32) (V' : FV) (hc : f_X4_undo V = some (r, V')) : ConI l yX4_undo wsX4_undo 0 0 D cy (MW cy a) [.ref (a 0)] V V' r := by
  refine bodyI (cc := cX4_undo) (maxL := 2) (ty := .int) (by decide +kernel) rfl (Nat.le_of_ble_eq_true rfl) ?_
  intro p e s m args below meth c A Q hx hb hml hts hown hK hP hD hA hS hend ls hl
  have hown : s.vm.findClass RX4 = some m.cls := hown
  have hP : va_P D vwCl (MW cy a V) s.heap := hP
  have hD : va_D A (MW cy a V) := hD
  have hl : lv_has ls 2 [(0, .ref (a 0))] := hl
  have hend : ∀ (H : Heap) (locs : List Loc) (pc : Nat) (ls : Array Slot) (v : Int32) (V : FV), v = r → V = V' → narrow .int (.int v) = .int v → va_P D vwCl (MW cy a V) H → va_D A (MW cy a V) → va_S A s.heap H locs → decode cX4_undo pc = .ok (.ireturn, 1) → W p l e (RM 0 0) s m args below meth c H locs 0 0 Q (F0 m pc ls [.int v]) := fun H locs pc ls v V h1 h2 h3 h4 h5 h6 h7 => hend H locs pc ls v V h1 h2 h3 h4 h5 h6 h7
  have fl_29 := hts (.fieldLink RX4 29 "NoonWellsModel" "stateMany" "I") (by decide +kernel)
  have inw_X4 := (by decide +kernel : ∀ w ∈ u_ws RX4 TX4 12, w ∈ wsX4_undo)
  have fl_25 := hts (.fieldLink RX4 25 "NoonWellsModel" "stateAt" "I") (by decide +kernel)
  have fl_7 := hts (.fieldLink RX4 7 "NoonWellsModel" "now" "[I") (by decide +kernel)
  have fl_16 := hts (.fieldLink RX4 16 "NoonWellsModel" "states" "[I") (by decide +kernel)
  have L36 : ∀ (n : Nat), ∀ (y1 : Int32) (V : FV) (H : Heap) (locs : List Loc) (ls : Array Slot), f_X4_undo_L36 n y1 V = some (r, V') → va_P D vwCl (MW cy a V) H → va_D A (MW cy a V) → va_S A s.heap H locs → lv_has ls 2 [(0, .ref (a 0)), (1, .int y1)] → W p l e (RM 0 0) s m args below meth c H locs 0 0 Q (F0 m 36 ls []) := by
    intro n
    induction n with
    | zero =>
      intro y1 V H locs ls hc
      cases hc
    | succ n ih =>
      intro y1 V H locs ls hc hP hD hS hl
      refine lv_iload_n hx hb dX4_undo_36 rfl (lv_at hl 1 rfl) ?_
      refine lv_sipush (v := 236) hx hb dX4_undo_37 (by decide +kernel) ?_
      refine lv_icmp_ge (tgt := 70) hx hb dX4_undo_40 (by decide) (fun c4 => ?_) (fun c4 => ?_)
      · replace hc := ite_t c4 hc
        refine lv_aload_n hx hb dX4_undo_70 rfl (lv_at hl 0 rfl) ?_
        refine va_get (ci := 4) (v := .int (V 0 0)) (C := RX4) (T := TX4) (N := 12) hx hb hts inw_X4 hown hK.1 hP 0 rfl rfl 4 (by decide) fl_29 (fun _ h9 => h9) rfl dX4_undo_71 ?_
        exact hend H locs _ _ _ _ (some_fst hc) (some_snd hc) rfl hP hD hS dX4_undo_74
      · replace hc := ite_f c4 hc
        refine lv_aload_n hx hb dX4_undo_43 rfl (lv_at hl 0 rfl) ?_
        refine va_get (ci := 4) (v := .ref (a 1)) (C := RX4) (T := TX4) (N := 12) hx hb hts inw_X4 hown hK.1 hP 0 rfl rfl 0 (by decide) fl_7 (fun _ h9 => h9) rfl dX4_undo_44 ?_
        refine lv_iload_n hx hb dX4_undo_47 rfl (lv_at hl 1 rfl) ?_
        refine lv_aload_n hx hb dX4_undo_48 rfl (lv_at hl 0 rfl) ?_
        refine va_get (ci := 4) (v := .ref (a 3)) (C := RX4) (T := TX4) (N := 12) hx hb hts inw_X4 hown hK.1 hP 0 rfl rfl 2 (by decide) fl_16 (fun _ h9 => h9) rfl dX4_undo_49 ?_
        refine lv_sipush (v := 236) hx hb dX4_undo_52 (by decide +kernel) ?_
        refine lv_aload_n hx hb dX4_undo_55 rfl (lv_at hl 0 rfl) ?_
        refine va_get (ci := 4) (v := .int (V 0 1)) (C := RX4) (T := TX4) (N := 12) hx hb hts inw_X4 hown hK.1 hP 0 rfl rfl 5 (by decide) fl_25 (fun _ h9 => h9) rfl dX4_undo_56 ?_
        refine lv_imul hx hb dX4_undo_59 ?_
        refine lv_iload_n hx hb dX4_undo_60 rfl (lv_at hl 1 rfl) ?_
        refine lv_iadd hx hb dX4_undo_61 ?_
        obtain ⟨x5, hi5, hv5, hc⟩ := rd_some hc
        refine g_iald (x := x5) hx hb hK hP 3 rfl hi5 hv5 dX4_undo_62 ?_
        obtain ⟨V6, hi6, eV6, hc⟩ := wr_some hc
        refine g_iast (w' := MW cy a V6) hx hb hK hP hD hS 1 rfl hi6 (by rw [← eV6]; rfl) dX4_undo_63 (fun H locs hP hD hS => ?_)
        refine lv_iinc (v := y1 + 1) (lv' := [(1, .int (y1 + 1)), (0, .ref (a 0))]) hx hb dX4_undo_64 hl (k := 1) rfl rfl (by decide) rfl (fun ls hl => ?_)
        refine lv_goto (tgt := 36) hx hb dX4_undo_67 (by decide) ?_
        exact ih (y1 + 1) V6 H locs ls hc hP hD hS (lv_sub hl [1, 0] rfl)
  obtain ⟨H, hHe⟩ : ∃ H : Heap, H = s.heap := ⟨_, rfl⟩
  obtain ⟨locs, hLe⟩ : ∃ x : List Loc, x = [] := ⟨_, rfl⟩
  have hP : va_P D vwCl (MW cy a V) H := by rw [hHe]; exact hP
  have hS : va_S A s.heap H locs := by rw [hHe, hLe]; exact hS
  have goal0 : W p l e (RM 0 0) s m args below meth c H locs 0 0 Q (F0 m 0 ls []) := by
    refine lv_aload_n hx hb dX4_undo_0 rfl (lv_at hl 0 rfl) ?_
    refine va_get (ci := 4) (v := .int (V 0 0)) (C := RX4) (T := TX4) (N := 12) hx hb hts inw_X4 hown hK.1 hP 0 rfl rfl 4 (by decide) fl_29 (fun _ h9 => h9) rfl dX4_undo_1 ?_
    refine lv_if_ne (tgt := 10) hx hb dX4_undo_4 (by decide) (fun c1 => ?_) (fun c1 => ?_)
    · replace hc := ite_f c1 hc
      refine lv_aload_n hx hb dX4_undo_10 rfl (lv_at hl 0 rfl) ?_
      refine lv_aload_n hx hb dX4_undo_11 rfl (lv_at hl 0 rfl) ?_
      refine va_get (ci := 4) (v := .int (V 0 1)) (C := RX4) (T := TX4) (N := 12) hx hb hts inw_X4 hown hK.1 hP 0 rfl rfl 5 (by decide) fl_25 (fun _ h9 => h9) rfl dX4_undo_12 ?_
      refine lv_iconst (v := 4) hx hb dX4_undo_15 (by decide) ?_
      refine lv_iadd hx hb dX4_undo_16 ?_
      refine lv_iconst (v := 1) hx hb dX4_undo_17 (by decide) ?_
      refine lv_isub hx hb dX4_undo_18 ?_
      refine lv_iconst (v := 4) hx hb dX4_undo_19 (by decide) ?_
      refine lv_irem hx hb dX4_undo_20 (by decide) ?_
      obtain ⟨V2, eV2, hc⟩ := lt1_some hc
      refine g_put (ci := 4) (C := RX4) (T := TX4) (N := 12) (w' := MW cy a V2) hx hb hts inw_X4 tyX4 tyX4_ok nmX4 hown hK hP hD hS 0 rfl rfl 5 (by decide) fl_25 (fun _ h9 => h9) rfl (by decide +kernel) (Nat.le_of_ble_eq_true rfl) (by rw [← eV2]; rfl) dX4_undo_21 (fun H locs hP hD hS => ?_)
      refine lv_aload_n hx hb dX4_undo_24 rfl (lv_at hl 0 rfl) ?_
      refine lv_dup hx hb dX4_undo_25 rfl ?_
      refine va_get (ci := 4) (v := .int (V2 0 0)) (C := RX4) (T := TX4) (N := 12) hx hb hts inw_X4 hown hK.1 hP 0 rfl rfl 4 (by decide) fl_29 (fun _ h9 => h9) rfl dX4_undo_26 ?_
      refine lv_iconst (v := 1) hx hb dX4_undo_29 (by decide) ?_
      refine lv_isub hx hb dX4_undo_30 ?_
      obtain ⟨V3, eV3, hc⟩ := lt1_some hc
      refine g_put (ci := 4) (C := RX4) (T := TX4) (N := 12) (w' := MW cy a V3) hx hb hts inw_X4 tyX4 tyX4_ok nmX4 hown hK hP hD hS 0 rfl rfl 4 (by decide) fl_29 (fun _ h9 => h9) rfl (by decide +kernel) (Nat.le_of_ble_eq_true rfl) (by rw [← eV3]; rfl) dX4_undo_31 (fun H locs hP hD hS => ?_)
      refine lv_iconst (v := 0) hx hb dX4_undo_34 (by decide) ?_
      refine lv_istore_n (lv' := [(1, .int 0), (0, .ref (a 0))]) hx hb dX4_undo_35 rfl hl (by decide) rfl (fun ls hl => ?_)
      exact L36 FUEL 0 V3 H locs ls hc hP hD hS (lv_sub hl [1, 0] rfl)
    · replace hc := ite_t c1 hc
      refine lv_bipush (v := (-2)) hx hb dX4_undo_7 (by decide +kernel) ?_
      exact hend H locs _ _ _ _ (some_fst hc) (some_snd hc) rfl hP hD hS dX4_undo_9
  rw [hHe, hLe] at goal0
  exact goal0
set_option maxHeartbeats 4000000 in
set_option maxRecDepth 100000 in
theorem C_X4_adds (l : Launch) (D : va_G) (cy : Nat → ClassId) (a : Nat → Nat) (V : FV) (p1 : Int32) (p2 : Int32) (p3 : Int32) (V' : FV) (hc : f_X4_adds V p1 p2 p3 = some V') : ConV l yX4_adds wsX4_adds 0 0 D cy (MW cy a) [.ref (a 0), .int p1, .int p2, .int p3] V V' := by
  refine bodyV (cc := cX4_adds) (maxL := 4) (by decide +kernel) rfl (Nat.le_of_ble_eq_true rfl) ?_
  intro p e s m args below meth c A Q hx hb hml hts hown hK hP hD hA hS hend ls hl
  have hown : s.vm.findClass RX4 = some m.cls := hown
  have hP : va_P D vwCl (MW cy a V) s.heap := hP
  have hD : va_D A (MW cy a V) := hD
  have hl : lv_has ls 4 [(0, .ref (a 0)), (1, .int p1), (2, .int p2), (3, .int p3)] := hl
  have hend : ∀ (H : Heap) (locs : List Loc) (pc : Nat) (ls : Array Slot) (V : FV), V = V' → va_P D vwCl (MW cy a V) H → va_D A (MW cy a V) → va_S A s.heap H locs → decode cX4_adds pc = .ok (.return_, 1) → W p l e (RM 0 0) s m args below meth c H locs 0 0 Q (F0 m pc ls []) := fun H locs pc ls V h1 h2 h3 h4 h5 => hend H locs pc ls V h1 h2 h3 h4 h5
  have fl_7 := hts (.fieldLink RX4 7 "NoonWellsModel" "now" "[I") (by decide +kernel)
  have inw_X4 := (by decide +kernel : ∀ w ∈ u_ws RX4 TX4 12, w ∈ wsX4_adds)
  obtain ⟨H, hHe⟩ : ∃ H : Heap, H = s.heap := ⟨_, rfl⟩
  obtain ⟨locs, hLe⟩ : ∃ x : List Loc, x = [] := ⟨_, rfl⟩
  have hP : va_P D vwCl (MW cy a V) H := by rw [hHe]; exact hP
  have hS : va_S A s.heap H locs := by rw [hHe, hLe]; exact hS
  have goal0 : W p l e (RM 0 0) s m args below meth c H locs 0 0 Q (F0 m 0 ls []) := by
    refine lv_aload_n hx hb dX4_adds_0 rfl (lv_at hl 0 rfl) ?_
    refine va_get (ci := 4) (v := .ref (a 1)) (C := RX4) (T := TX4) (N := 12) hx hb hts inw_X4 hown hK.1 hP 0 rfl rfl 0 (by decide) fl_7 (fun _ h9 => h9) rfl dX4_adds_1 ?_
    refine lv_bipush (v := 8) hx hb dX4_adds_4 (by decide +kernel) ?_
    refine lv_bipush (v := 12) hx hb dX4_adds_6 (by decide +kernel) ?_
    refine lv_iload_n hx hb dX4_adds_8 rfl (lv_at hl 1 rfl) ?_
    refine lv_imul hx hb dX4_adds_9 ?_
    refine lv_iadd hx hb dX4_adds_10 ?_
    refine lv_iload_n hx hb dX4_adds_11 rfl (lv_at hl 2 rfl) ?_
    refine lv_iadd hx hb dX4_adds_12 ?_
    refine lv_dup2_11 hx hb dX4_adds_13 rfl rfl ?_
    obtain ⟨x1, hi1, hv1, hc⟩ := rd_some hc
    refine g_iald (x := x1) hx hb hK hP 1 rfl hi1 hv1 dX4_adds_14 ?_
    refine lv_iload_n hx hb dX4_adds_15 rfl (lv_at hl 3 rfl) ?_
    refine lv_iadd hx hb dX4_adds_16 ?_
    obtain ⟨V2, hi2, eV2, hc⟩ := wr_some hc
    refine g_iast (w' := MW cy a V2) hx hb hK hP hD hS 1 rfl hi2 (by rw [← eV2]; rfl) dX4_adds_17 (fun H locs hP hD hS => ?_)
    exact hend H locs _ _ _ (some_one hc) hP hD hS dX4_adds_18
  rw [hHe, hLe] at goal0
  exact goal0
