set_option maxHeartbeats 4000000 in
set_option maxRecDepth 100000 in
theorem C_X4_in (l : Launch) (D : va_G) (cy : Nat → ClassId) (p0 : Int32) (p1 : Int32) (p2 : Int32) (r : Int32) (hc : f_X4_in p0 p1 p2 = some r) : ConI l yX4_in wsX4_in 0 0 D cy (fun (_ : Unit) => ([] : va_W)) [.int p0, .int p1, .int p2] (()) (()) r := by
  refine bodyI (cc := cX4_in) (maxL := 3) (ty := .boolean) (by decide +kernel) rfl (Nat.le_of_ble_eq_true rfl) ?_
  intro p e s m args below meth c A Q hx hb hml hts hown hK hP hD hA hS hend ls hl
  have hown : s.vm.findClass RX4 = some m.cls := hown
  have hP : va_P D vwCl (([] : va_W)) s.heap := hP
  have hD : va_D A (([] : va_W)) := hD
  have hl : lv_has ls 3 [(0, .int p0), (1, .int p1), (2, .int p2)] := hl
  have hend : ∀ (H : Heap) (locs : List Loc) (pc : Nat) (ls : Array Slot) (v : Int32), v = r → narrow .boolean (.int v) = .int v → va_P D vwCl (([] : va_W)) H → va_D A (([] : va_W)) → va_S A s.heap H locs → decode cX4_in pc = .ok (.ireturn, 1) → W p l e (RM 0 0) s m args below meth c H locs 0 0 Q (F0 m pc ls [.int v]) := fun H locs pc ls v h1 h3 h4 h5 h6 h7 => hend H locs pc ls v (()) h1 rfl h3 h4 h5 h6 h7
  obtain ⟨H, hHe⟩ : ∃ H : Heap, H = s.heap := ⟨_, rfl⟩
  obtain ⟨locs, hLe⟩ : ∃ x : List Loc, x = [] := ⟨_, rfl⟩
  have hP : va_P D vwCl (([] : va_W)) H := by rw [hHe]; exact hP
  have hS : va_S A s.heap H locs := by rw [hHe, hLe]; exact hS
  have goal0 : W p l e (RM 0 0) s m args below meth c H locs 0 0 Q (F0 m 0 ls []) := by
    refine lv_iload_n hx hb dX4_in_0 rfl (lv_at hl 0 rfl) ?_
    refine lv_iload_n hx hb dX4_in_1 rfl (lv_at hl 1 rfl) ?_
    refine lv_icmp_lt (tgt := 14) hx hb dX4_in_2 (by decide) (fun c1 => ?_) (fun c1 => ?_)
    · replace hc := ite_t c1 hc
      refine lv_iconst (v := 0) hx hb dX4_in_14 (by decide) ?_
      exact hend H locs _ _ _ (some_one hc) rfl hP hD hS dX4_in_15
    · replace hc := ite_f c1 hc
      refine lv_iload_n hx hb dX4_in_5 rfl (lv_at hl 0 rfl) ?_
      refine lv_iload_n hx hb dX4_in_6 rfl (lv_at hl 2 rfl) ?_
      refine lv_icmp_gt (tgt := 14) hx hb dX4_in_7 (by decide) (fun c2 => ?_) (fun c2 => ?_)
      · replace hc := ite_t c2 hc
        refine lv_iconst (v := 0) hx hb dX4_in_14 (by decide) ?_
        exact hend H locs _ _ _ (some_one hc) rfl hP hD hS dX4_in_15
      · replace hc := ite_f c2 hc
        refine lv_iconst (v := 1) hx hb dX4_in_10 (by decide) ?_
        refine lv_goto (tgt := 15) hx hb dX4_in_11 (by decide) ?_
        exact hend H locs _ _ _ (some_one hc) rfl hP hD hS dX4_in_15
  rw [hHe, hLe] at goal0
  exact goal0
set_option maxHeartbeats 4000000 in
set_option maxRecDepth 100000 in
theorem C_X4_least (l : Launch) (D : va_G) (cy : Nat → ClassId) (p0 : Int32) (p1 : Int32) (r : Int32) (hc : f_X4_least p0 p1 = some r) : ConI l yX4_least wsX4_least 0 0 D cy (fun (_ : Unit) => ([] : va_W)) [.int p0, .int p1] (()) (()) r := by
  refine bodyI (cc := cX4_least) (maxL := 2) (ty := .int) (by decide +kernel) rfl (Nat.le_of_ble_eq_true rfl) ?_
  intro p e s m args below meth c A Q hx hb hml hts hown hK hP hD hA hS hend ls hl
  have hown : s.vm.findClass RX4 = some m.cls := hown
  have hP : va_P D vwCl (([] : va_W)) s.heap := hP
  have hD : va_D A (([] : va_W)) := hD
  have hl : lv_has ls 2 [(0, .int p0), (1, .int p1)] := hl
  have hend : ∀ (H : Heap) (locs : List Loc) (pc : Nat) (ls : Array Slot) (v : Int32), v = r → narrow .int (.int v) = .int v → va_P D vwCl (([] : va_W)) H → va_D A (([] : va_W)) → va_S A s.heap H locs → decode cX4_least pc = .ok (.ireturn, 1) → W p l e (RM 0 0) s m args below meth c H locs 0 0 Q (F0 m pc ls [.int v]) := fun H locs pc ls v h1 h3 h4 h5 h6 h7 => hend H locs pc ls v (()) h1 rfl h3 h4 h5 h6 h7
  obtain ⟨H, hHe⟩ : ∃ H : Heap, H = s.heap := ⟨_, rfl⟩
  obtain ⟨locs, hLe⟩ : ∃ x : List Loc, x = [] := ⟨_, rfl⟩
  have hP : va_P D vwCl (([] : va_W)) H := by rw [hHe]; exact hP
  have hS : va_S A s.heap H locs := by rw [hHe, hLe]; exact hS
  have goal0 : W p l e (RM 0 0) s m args below meth c H locs 0 0 Q (F0 m 0 ls []) := by
    refine lv_iload_n hx hb dX4_least_0 rfl (lv_at hl 0 rfl) ?_
    refine lv_iload_n hx hb dX4_least_1 rfl (lv_at hl 1 rfl) ?_
    refine lv_icmp_ge (tgt := 9) hx hb dX4_least_2 (by decide) (fun c1 => ?_) (fun c1 => ?_)
    · replace hc := ite_t c1 hc
      refine lv_iload_n hx hb dX4_least_9 rfl (lv_at hl 1 rfl) ?_
      exact hend H locs _ _ _ (some_one hc) rfl hP hD hS dX4_least_10
    · replace hc := ite_f c1 hc
      refine lv_iload_n hx hb dX4_least_5 rfl (lv_at hl 0 rfl) ?_
      refine lv_goto (tgt := 10) hx hb dX4_least_6 (by decide) ?_
      exact hend H locs _ _ _ (some_one hc) rfl hP hD hS dX4_least_10
  rw [hHe, hLe] at goal0
  exact goal0
set_option maxHeartbeats 4000000 in
set_option maxRecDepth 100000 in
theorem C_X4_isDraw (l : Launch) (D : va_G) (cy : Nat → ClassId) (p0 : Int32) (r : Int32) (hc : f_X4_isDraw p0 = some r) : ConI l yX4_isDraw wsX4_isDraw 1 22 D cy (fun (_ : Unit) => ([] : va_W)) [.int p0] (()) (()) r := by
  refine bodyI (cc := cX4_isDraw) (maxL := 1) (ty := .boolean) (by decide +kernel) rfl (Nat.le_of_ble_eq_true rfl) ?_
  intro p e s m args below meth c A Q hx hb hml hts hown hK hP hD hA hS hend ls hl
  have hown : s.vm.findClass RX4 = some m.cls := hown
  have hP : va_P D vwCl (([] : va_W)) s.heap := hP
  have hD : va_D A (([] : va_W)) := hD
  have hl : lv_has ls 1 [(0, .int p0)] := hl
  have hend : ∀ (H : Heap) (locs : List Loc) (pc : Nat) (ls : Array Slot) (v : Int32), v = r → narrow .boolean (.int v) = .int v → va_P D vwCl (([] : va_W)) H → va_D A (([] : va_W)) → va_S A s.heap H locs → decode cX4_isDraw pc = .ok (.ireturn, 1) → W p l e (RM 1 22) s m args below meth c H locs 0 0 Q (F0 m pc ls [.int v]) := fun H locs pc ls v h1 h3 h4 h5 h6 h7 => hend H locs pc ls v (()) h1 rfl h3 h4 h5 h6 h7
  obtain ⟨H, hHe⟩ : ∃ H : Heap, H = s.heap := ⟨_, rfl⟩
  obtain ⟨locs, hLe⟩ : ∃ x : List Loc, x = [] := ⟨_, rfl⟩
  have hP : va_P D vwCl (([] : va_W)) H := by rw [hHe]; exact hP
  have hS : va_S A s.heap H locs := by rw [hHe, hLe]; exact hS
  have goal0 : W p l e (RM 1 22) s m args below meth c H locs 0 0 Q (F0 m 0 ls []) := by
    refine lv_iload_n hx hb dX4_isDraw_0 rfl (lv_at hl 0 rfl) ?_
    refine lv_iconst (v := 1) hx hb dX4_isDraw_1 (by decide) ?_
    refine lv_sipush (v := 999) hx hb dX4_isDraw_2 (by decide +kernel) ?_
    obtain ⟨x1, hc1, hc⟩ := b1_some hc
    refine gc_SI (n := 3) (w' := ([] : va_W)) hx hb hml hown hts hK hP hD hS hA hl.1 ⟨Nat.le_refl _, Nat.le_refl _⟩ (C_X4_in l D cy p0 1 999 x1 hc1) gX4_isDraw_X4_in rfl (by decide +kernel) rfl ⟨by decide, by decide⟩ Jn.same rfl (Nat.le_of_ble_eq_true rfl) dX4_isDraw_5 (fun H locs hP hD hS => ?_)
    obtain ⟨hz2, hc⟩ := bz_some hc
    exact hend H locs _ _ _ (some_one hc) (by rcases hz2 with h9 | h9 <;> rw [h9] <;> rfl) hP hD hS dX4_isDraw_8
  rw [hHe, hLe] at goal0
  exact goal0
set_option maxHeartbeats 4000000 in
set_option maxRecDepth 100000 in
theorem C_X4_isWell (l : Launch) (D : va_G) (cy : Nat → ClassId) (a : Nat → Nat) (V : FV) (p1 : Int32) (r : Int32) (hc : f_X4_isWell V p1 = some r) : ConI l yX4_isWell wsX4_isWell 1 22 D cy (MW cy a) [.ref (a 0), .int p1] V V r := by
  refine bodyI (cc := cX4_isWell) (maxL := 2) (ty := .boolean) (by decide +kernel) rfl (Nat.le_of_ble_eq_true rfl) ?_
  intro p e s m args below meth c A Q hx hb hml hts hown hK hP hD hA hS hend ls hl
  have hown : s.vm.findClass RX4 = some m.cls := hown
  have hP : va_P D vwCl (MW cy a V) s.heap := hP
  have hD : va_D A (MW cy a V) := hD
  have hl : lv_has ls 2 [(0, .ref (a 0)), (1, .int p1)] := hl
  have hend : ∀ (H : Heap) (locs : List Loc) (pc : Nat) (ls : Array Slot) (v : Int32), v = r → narrow .boolean (.int v) = .int v → va_P D vwCl (MW cy a V) H → va_D A (MW cy a V) → va_S A s.heap H locs → decode cX4_isWell pc = .ok (.ireturn, 1) → W p l e (RM 1 22) s m args below meth c H locs 0 0 Q (F0 m pc ls [.int v]) := fun H locs pc ls v h1 h3 h4 h5 h6 h7 => hend H locs pc ls v V h1 rfl h3 h4 h5 h6 h7
  have fl_7 := hts (.fieldLink RX4 7 "NoonWellsModel" "now" "[I") (by decide +kernel)
  have inw_X4 := (by decide +kernel : ∀ w ∈ u_ws RX4 TX4 12, w ∈ wsX4_isWell)
  obtain ⟨H, hHe⟩ : ∃ H : Heap, H = s.heap := ⟨_, rfl⟩
  obtain ⟨locs, hLe⟩ : ∃ x : List Loc, x = [] := ⟨_, rfl⟩
  have hP : va_P D vwCl (MW cy a V) H := by rw [hHe]; exact hP
  have hS : va_S A s.heap H locs := by rw [hHe, hLe]; exact hS
  have goal0 : W p l e (RM 1 22) s m args below meth c H locs 0 0 Q (F0 m 0 ls []) := by
    refine lv_iload_n hx hb dX4_isWell_0 rfl (lv_at hl 1 rfl) ?_
    refine lv_iconst (v := 0) hx hb dX4_isWell_1 (by decide) ?_
    refine lv_aload_n hx hb dX4_isWell_2 rfl (lv_at hl 0 rfl) ?_
    refine va_get (ci := 4) (v := .ref (a 1)) (C := RX4) (T := TX4) (N := 12) hx hb hts inw_X4 hown hK.1 hP 0 rfl rfl 0 (by decide) fl_7 (fun _ h9 => h9) rfl dX4_isWell_3 ?_
    refine lv_iconst (v := 3) hx hb dX4_isWell_6 (by decide) ?_
    refine g_iald (x := V 1 3) hx hb hK hP 1 rfl (vp_lit (by decide)) rfl dX4_isWell_7 ?_
    refine lv_iconst (v := 1) hx hb dX4_isWell_8 (by decide) ?_
    refine lv_isub hx hb dX4_isWell_9 ?_
    obtain ⟨x1, hc1, hc⟩ := b1_some hc
    refine gc_SI (n := 3) (w' := MW cy a V) hx hb hml hown hts hK hP hD hS hA hl.1 ⟨Nat.le_refl _, Nat.le_refl _⟩ (C_X4_in l D cy p1 0 ((V 1 3) - 1) x1 hc1) gX4_isWell_X4_in rfl (by decide +kernel) rfl ⟨by decide, by decide⟩ Jn.none rfl (Nat.le_of_ble_eq_true rfl) dX4_isWell_10 (fun H locs hP hD hS => ?_)
    obtain ⟨hz2, hc⟩ := bz_some hc
    exact hend H locs _ _ _ (some_one hc) (by rcases hz2 with h9 | h9 <;> rw [h9] <;> rfl) hP hD hS dX4_isWell_13
  rw [hHe, hLe] at goal0
  exact goal0
set_option maxHeartbeats 4000000 in
set_option maxRecDepth 100000 in
theorem C_X4_of (l : Launch) (D : va_G) (cy : Nat → ClassId) (a : Nat → Nat) (V : FV) (p1 : Int32) (p2 : Int32) (r : Int32) (hc : f_X4_of V p1 p2 = some r) : ConI l yX4_of wsX4_of 0 0 D cy (MW cy a) [.ref (a 0), .int p1, .int p2] V V r := by
  refine bodyI (cc := cX4_of) (maxL := 3) (ty := .int) (by decide +kernel) rfl (Nat.le_of_ble_eq_true rfl) ?_
  intro p e s m args below meth c A Q hx hb hml hts hown hK hP hD hA hS hend ls hl
  have hown : s.vm.findClass RX4 = some m.cls := hown
  have hP : va_P D vwCl (MW cy a V) s.heap := hP
  have hD : va_D A (MW cy a V) := hD
  have hl : lv_has ls 3 [(0, .ref (a 0)), (1, .int p1), (2, .int p2)] := hl
  have hend : ∀ (H : Heap) (locs : List Loc) (pc : Nat) (ls : Array Slot) (v : Int32), v = r → narrow .int (.int v) = .int v → va_P D vwCl (MW cy a V) H → va_D A (MW cy a V) → va_S A s.heap H locs → decode cX4_of pc = .ok (.ireturn, 1) → W p l e (RM 0 0) s m args below meth c H locs 0 0 Q (F0 m pc ls [.int v]) := fun H locs pc ls v h1 h3 h4 h5 h6 h7 => hend H locs pc ls v V h1 rfl h3 h4 h5 h6 h7
  have fl_7 := hts (.fieldLink RX4 7 "NoonWellsModel" "now" "[I") (by decide +kernel)
  have inw_X4 := (by decide +kernel : ∀ w ∈ u_ws RX4 TX4 12, w ∈ wsX4_of)
  obtain ⟨H, hHe⟩ : ∃ H : Heap, H = s.heap := ⟨_, rfl⟩
  obtain ⟨locs, hLe⟩ : ∃ x : List Loc, x = [] := ⟨_, rfl⟩
  have hP : va_P D vwCl (MW cy a V) H := by rw [hHe]; exact hP
  have hS : va_S A s.heap H locs := by rw [hHe, hLe]; exact hS
  have goal0 : W p l e (RM 0 0) s m args below meth c H locs 0 0 Q (F0 m 0 ls []) := by
    refine lv_aload_n hx hb dX4_of_0 rfl (lv_at hl 0 rfl) ?_
    refine va_get (ci := 4) (v := .ref (a 1)) (C := RX4) (T := TX4) (N := 12) hx hb hts inw_X4 hown hK.1 hP 0 rfl rfl 0 (by decide) fl_7 (fun _ h9 => h9) rfl dX4_of_1 ?_
    refine lv_bipush (v := 8) hx hb dX4_of_4 (by decide +kernel) ?_
    refine lv_bipush (v := 12) hx hb dX4_of_6 (by decide +kernel) ?_
    refine lv_iload_n hx hb dX4_of_8 rfl (lv_at hl 1 rfl) ?_
    refine lv_imul hx hb dX4_of_9 ?_
    refine lv_iadd hx hb dX4_of_10 ?_
    refine lv_iload_n hx hb dX4_of_11 rfl (lv_at hl 2 rfl) ?_
    refine lv_iadd hx hb dX4_of_12 ?_
    obtain ⟨x1, hi1, hv1, hc⟩ := rd_some hc
    refine g_iald (x := x1) hx hb hK hP 1 rfl hi1 hv1 dX4_of_13 ?_
    exact hend H locs _ _ _ (some_one hc) rfl hP hD hS dX4_of_14
  rw [hHe, hLe] at goal0
  exact goal0
set_option maxHeartbeats 4000000 in
set_option maxRecDepth 100000 in
theorem C_X4_half (l : Launch) (D : va_G) (cy : Nat → ClassId) (a : Nat → Nat) (V : FV) (p1 : Int32) (r : Int32) (hc : f_X4_half V p1 = some r) : ConI l yX4_half wsX4_half 1 22 D cy (MW cy a) [.ref (a 0), .int p1] V V r := by
  refine bodyI (cc := cX4_half) (maxL := 2) (ty := .int) (by decide +kernel) rfl (Nat.le_of_ble_eq_true rfl) ?_
  intro p e s m args below meth c A Q hx hb hml hts hown hK hP hD hA hS hend ls hl
  have hown : s.vm.findClass RX4 = some m.cls := hown
  have hP : va_P D vwCl (MW cy a V) s.heap := hP
  have hD : va_D A (MW cy a V) := hD
  have hl : lv_has ls 2 [(0, .ref (a 0)), (1, .int p1)] := hl
  have hend : ∀ (H : Heap) (locs : List Loc) (pc : Nat) (ls : Array Slot) (v : Int32), v = r → narrow .int (.int v) = .int v → va_P D vwCl (MW cy a V) H → va_D A (MW cy a V) → va_S A s.heap H locs → decode cX4_half pc = .ok (.ireturn, 1) → W p l e (RM 1 22) s m args below meth c H locs 0 0 Q (F0 m pc ls [.int v]) := fun H locs pc ls v h1 h3 h4 h5 h6 h7 => hend H locs pc ls v V h1 rfl h3 h4 h5 h6 h7
  obtain ⟨H, hHe⟩ : ∃ H : Heap, H = s.heap := ⟨_, rfl⟩
  obtain ⟨locs, hLe⟩ : ∃ x : List Loc, x = [] := ⟨_, rfl⟩
  have hP : va_P D vwCl (MW cy a V) H := by rw [hHe]; exact hP
  have hS : va_S A s.heap H locs := by rw [hHe, hLe]; exact hS
  have goal0 : W p l e (RM 1 22) s m args below meth c H locs 0 0 Q (F0 m 0 ls []) := by
    refine lv_aload_n hx hb dX4_half_0 rfl (lv_at hl 0 rfl) ?_
    refine lv_iload_n hx hb dX4_half_1 rfl (lv_at hl 1 rfl) ?_
    refine lv_iconst (v := 1) hx hb dX4_half_2 (by decide) ?_
    obtain ⟨x1, hc1, hc⟩ := b1_some hc
    refine gc_VI (n := 2) (q0 := 0) (ci := 4) (w' := MW cy a V) hx hb hml hown hts hK hP hD hS hA hl.1 ⟨Nat.le_refl _, Nat.le_refl _⟩ (C_X4_of l D cy a V p1 1 x1 hc1) gX4_half_X4_of rfl (by decide +kernel) rfl ⟨by decide, by decide⟩ Jn.same rfl rfl rfl (Nat.le_of_ble_eq_true rfl) dX4_half_3 (fun H locs hP hD hS => ?_)
    refine lv_iconst (v := 2) hx hb dX4_half_6 (by decide) ?_
    refine lv_idiv hx hb dX4_half_7 (by decide) ?_
    exact hend H locs _ _ _ (some_one hc) rfl hP hD hS dX4_half_8
  rw [hHe, hLe] at goal0
  exact goal0
set_option maxHeartbeats 4000000 in
set_option maxRecDepth 100000 in
theorem C_X4_room (l : Launch) (D : va_G) (cy : Nat → ClassId) (a : Nat → Nat) (V : FV) (p1 : Int32) (r : Int32) (hc : f_X4_room V p1 = some r) : ConI l yX4_room wsX4_room 1 22 D cy (MW cy a) [.ref (a 0), .int p1] V V r := by
  refine bodyI (cc := cX4_room) (maxL := 2) (ty := .int) (by decide +kernel) rfl (Nat.le_of_ble_eq_true rfl) ?_
  intro p e s m args below meth c A Q hx hb hml hts hown hK hP hD hA hS hend ls hl
  have hown : s.vm.findClass RX4 = some m.cls := hown
  have hP : va_P D vwCl (MW cy a V) s.heap := hP
  have hD : va_D A (MW cy a V) := hD
  have hl : lv_has ls 2 [(0, .ref (a 0)), (1, .int p1)] := hl
  have hend : ∀ (H : Heap) (locs : List Loc) (pc : Nat) (ls : Array Slot) (v : Int32), v = r → narrow .int (.int v) = .int v → va_P D vwCl (MW cy a V) H → va_D A (MW cy a V) → va_S A s.heap H locs → decode cX4_room pc = .ok (.ireturn, 1) → W p l e (RM 1 22) s m args below meth c H locs 0 0 Q (F0 m pc ls [.int v]) := fun H locs pc ls v h1 h3 h4 h5 h6 h7 => hend H locs pc ls v V h1 rfl h3 h4 h5 h6 h7
  obtain ⟨H, hHe⟩ : ∃ H : Heap, H = s.heap := ⟨_, rfl⟩
  obtain ⟨locs, hLe⟩ : ∃ x : List Loc, x = [] := ⟨_, rfl⟩
  have hP : va_P D vwCl (MW cy a V) H := by rw [hHe]; exact hP
  have hS : va_S A s.heap H locs := by rw [hHe, hLe]; exact hS
  have goal0 : W p l e (RM 1 22) s m args below meth c H locs 0 0 Q (F0 m 0 ls []) := by
    refine lv_aload_n hx hb dX4_room_0 rfl (lv_at hl 0 rfl) ?_
    refine lv_iload_n hx hb dX4_room_1 rfl (lv_at hl 1 rfl) ?_
    refine lv_iconst (v := 1) hx hb dX4_room_2 (by decide) ?_
    obtain ⟨x1, hc1, hc⟩ := b1_some hc
    refine gc_VI (n := 2) (q0 := 0) (ci := 4) (w' := MW cy a V) hx hb hml hown hts hK hP hD hS hA hl.1 ⟨Nat.le_refl _, Nat.le_refl _⟩ (C_X4_of l D cy a V p1 1 x1 hc1) gX4_room_X4_of rfl (by decide +kernel) rfl ⟨by decide, by decide⟩ Jn.same rfl rfl rfl (Nat.le_of_ble_eq_true rfl) dX4_room_3 (fun H locs hP hD hS => ?_)
    refine lv_aload_n hx hb dX4_room_6 rfl (lv_at hl 0 rfl) ?_
    refine lv_iload_n hx hb dX4_room_7 rfl (lv_at hl 1 rfl) ?_
    refine lv_iconst (v := 4) hx hb dX4_room_8 (by decide) ?_
    obtain ⟨x2, hc2, hc⟩ := b1_some hc
    refine gc_VI (n := 2) (q0 := 0) (ci := 4) (w' := MW cy a V) hx hb hml hown hts hK hP hD hS hA hl.1 ⟨Nat.le_refl _, Nat.le_refl _⟩ (C_X4_of l D cy a V p1 4 x2 hc2) gX4_room_X4_of rfl (by decide +kernel) rfl ⟨by decide, by decide⟩ Jn.same rfl rfl rfl (Nat.le_of_ble_eq_true rfl) dX4_room_9 (fun H locs hP hD hS => ?_)
    refine lv_isub hx hb dX4_room_12 ?_
    exact hend H locs _ _ _ (some_one hc) rfl hP hD hS dX4_room_13
  rw [hHe, hLe] at goal0
  exact goal0
set_option maxHeartbeats 4000000 in
set_option maxRecDepth 100000 in
theorem C_X4_droughtOf (l : Launch) (D : va_G) (cy : Nat → ClassId) (a : Nat → Nat) (V : FV) (p1 : Int32) (p2 : Int32) (r : Int32) (hc : f_X4_droughtOf V p1 p2 = some r) : ConI l yX4_droughtOf wsX4_droughtOf 1 22 D cy (MW cy a) [.ref (a 0), .int p1, .int p2] V V r := by
  refine bodyI (cc := cX4_droughtOf) (maxL := 3) (ty := .int) (by decide +kernel) rfl (Nat.le_of_ble_eq_true rfl) ?_
  intro p e s m args below meth c A Q hx hb hml hts hown hK hP hD hA hS hend ls hl
  have hown : s.vm.findClass RX4 = some m.cls := hown
  have hP : va_P D vwCl (MW cy a V) s.heap := hP
  have hD : va_D A (MW cy a V) := hD
  have hl : lv_has ls 3 [(0, .ref (a 0)), (1, .int p1), (2, .int p2)] := hl
  have hend : ∀ (H : Heap) (locs : List Loc) (pc : Nat) (ls : Array Slot) (v : Int32), v = r → narrow .int (.int v) = .int v → va_P D vwCl (MW cy a V) H → va_D A (MW cy a V) → va_S A s.heap H locs → decode cX4_droughtOf pc = .ok (.ireturn, 1) → W p l e (RM 1 22) s m args below meth c H locs 0 0 Q (F0 m pc ls [.int v]) := fun H locs pc ls v h1 h3 h4 h5 h6 h7 => hend H locs pc ls v V h1 rfl h3 h4 h5 h6 h7
  have fl_7 := hts (.fieldLink RX4 7 "NoonWellsModel" "now" "[I") (by decide +kernel)
  have inw_X4 := (by decide +kernel : ∀ w ∈ u_ws RX4 TX4 12, w ∈ wsX4_droughtOf)
  obtain ⟨H, hHe⟩ : ∃ H : Heap, H = s.heap := ⟨_, rfl⟩
  obtain ⟨locs, hLe⟩ : ∃ x : List Loc, x = [] := ⟨_, rfl⟩
  have hP : va_P D vwCl (MW cy a V) H := by rw [hHe]; exact hP
  have hS : va_S A s.heap H locs := by rw [hHe, hLe]; exact hS
  have goal0 : W p l e (RM 1 22) s m args below meth c H locs 0 0 Q (F0 m 0 ls []) := by
    refine lv_iload_n hx hb dX4_droughtOf_0 rfl (lv_at hl 1 rfl) ?_
    refine lv_iconst (v := 0) hx hb dX4_droughtOf_1 (by decide) ?_
    refine lv_aload_n hx hb dX4_droughtOf_2 rfl (lv_at hl 0 rfl) ?_
    refine va_get (ci := 4) (v := .ref (a 1)) (C := RX4) (T := TX4) (N := 12) hx hb hts inw_X4 hown hK.1 hP 0 rfl rfl 0 (by decide) fl_7 (fun _ h9 => h9) rfl dX4_droughtOf_3 ?_
    refine lv_iconst (v := 4) hx hb dX4_droughtOf_6 (by decide) ?_
    refine g_iald (x := V 1 4) hx hb hK hP 1 rfl (vp_lit (by decide)) rfl dX4_droughtOf_7 ?_
    refine lv_iconst (v := 1) hx hb dX4_droughtOf_8 (by decide) ?_
    refine lv_isub hx hb dX4_droughtOf_9 ?_
    obtain ⟨x1, hc1, hc⟩ := b1_some hc
    refine gc_SI (n := 3) (w' := MW cy a V) hx hb hml hown hts hK hP hD hS hA hl.1 ⟨Nat.le_refl _, Nat.le_refl _⟩ (C_X4_in l D cy p1 0 ((V 1 4) - 1) x1 hc1) gX4_droughtOf_X4_in rfl (by decide +kernel) rfl ⟨by decide, by decide⟩ Jn.none rfl (Nat.le_of_ble_eq_true rfl) dX4_droughtOf_10 (fun H locs hP hD hS => ?_)
    refine lv_if_eq (tgt := 42) hx hb dX4_droughtOf_13 (by decide) (fun c2 => ?_) (fun c2 => ?_)
    · replace hc := ite_t c2 hc
      refine lv_iconst (v := (-1)) hx hb dX4_droughtOf_42 (by decide) ?_
      exact hend H locs _ _ _ (some_one hc) rfl hP hD hS dX4_droughtOf_43
    · replace hc := ite_f c2 hc
      refine lv_iload_n hx hb dX4_droughtOf_16 rfl (lv_at hl 2 rfl) ?_
      refine lv_iconst (v := 0) hx hb dX4_droughtOf_17 (by decide) ?_
      refine lv_iconst (v := 2) hx hb dX4_droughtOf_18 (by decide) ?_
      obtain ⟨x3, hc3, hc⟩ := b1_some hc
      refine gc_SI (n := 3) (w' := MW cy a V) hx hb hml hown hts hK hP hD hS hA hl.1 ⟨Nat.le_refl _, Nat.le_refl _⟩ (C_X4_in l D cy p2 0 2 x3 hc3) gX4_droughtOf_X4_in rfl (by decide +kernel) rfl ⟨by decide, by decide⟩ Jn.none rfl (Nat.le_of_ble_eq_true rfl) dX4_droughtOf_19 (fun H locs hP hD hS => ?_)
      refine lv_if_eq (tgt := 42) hx hb dX4_droughtOf_22 (by decide) (fun c4 => ?_) (fun c4 => ?_)
      · replace hc := ite_t c4 hc
        refine lv_iconst (v := (-1)) hx hb dX4_droughtOf_42 (by decide) ?_
        exact hend H locs _ _ _ (some_one hc) rfl hP hD hS dX4_droughtOf_43
      · replace hc := ite_f c4 hc
        refine lv_aload_n hx hb dX4_droughtOf_25 rfl (lv_at hl 0 rfl) ?_
        refine va_get (ci := 4) (v := .ref (a 1)) (C := RX4) (T := TX4) (N := 12) hx hb hts inw_X4 hown hK.1 hP 0 rfl rfl 0 (by decide) fl_7 (fun _ h9 => h9) rfl dX4_droughtOf_26 ?_
        refine lv_sipush (v := 152) hx hb dX4_droughtOf_29 (by decide +kernel) ?_
        refine lv_iconst (v := 3) hx hb dX4_droughtOf_32 (by decide) ?_
        refine lv_iload_n hx hb dX4_droughtOf_33 rfl (lv_at hl 1 rfl) ?_
        refine lv_imul hx hb dX4_droughtOf_34 ?_
        refine lv_iadd hx hb dX4_droughtOf_35 ?_
        refine lv_iload_n hx hb dX4_droughtOf_36 rfl (lv_at hl 2 rfl) ?_
        refine lv_iadd hx hb dX4_droughtOf_37 ?_
        obtain ⟨x5, hi5, hv5, hc⟩ := rd_some hc
        refine g_iald (x := x5) hx hb hK hP 1 rfl hi5 hv5 dX4_droughtOf_38 ?_
        refine lv_goto (tgt := 43) hx hb dX4_droughtOf_39 (by decide) ?_
        exact hend H locs _ _ _ (some_one hc) rfl hP hD hS dX4_droughtOf_43
  rw [hHe, hLe] at goal0
  exact goal0
set_option maxHeartbeats 4000000 in
set_option maxRecDepth 100000 in
theorem C_X4_isDry (l : Launch) (D : va_G) (cy : Nat → ClassId) (a : Nat → Nat) (V : FV) (p1 : Int32) (p2 : Int32) (r : Int32) (hc : f_X4_isDry V p1 p2 = some r) : ConI l yX4_isDry wsX4_isDry 1 22 D cy (MW cy a) [.ref (a 0), .int p1, .int p2] V V r := by
  refine bodyI (cc := cX4_isDry) (maxL := 6) (ty := .boolean) (by decide +kernel) rfl (Nat.le_of_ble_eq_true rfl) ?_
  intro p e s m args below meth c A Q hx hb hml hts hown hK hP hD hA hS hend ls hl
  have hown : s.vm.findClass RX4 = some m.cls := hown
  have hP : va_P D vwCl (MW cy a V) s.heap := hP
  have hD : va_D A (MW cy a V) := hD
  have hl : lv_has ls 6 [(0, .ref (a 0)), (1, .int p1), (2, .int p2)] := hl
  have hend : ∀ (H : Heap) (locs : List Loc) (pc : Nat) (ls : Array Slot) (v : Int32), v = r → narrow .boolean (.int v) = .int v → va_P D vwCl (MW cy a V) H → va_D A (MW cy a V) → va_S A s.heap H locs → decode cX4_isDry pc = .ok (.ireturn, 1) → W p l e (RM 1 22) s m args below meth c H locs 0 0 Q (F0 m pc ls [.int v]) := fun H locs pc ls v h1 h3 h4 h5 h6 h7 => hend H locs pc ls v V h1 rfl h3 h4 h5 h6 h7
  have fl_7 := hts (.fieldLink RX4 7 "NoonWellsModel" "now" "[I") (by decide +kernel)
  have inw_X4 := (by decide +kernel : ∀ w ∈ u_ws RX4 TX4 12, w ∈ wsX4_isDry)
  have L5 : ∀ (n : Nat), ∀ (y1 y2 y3 y4 : Int32) (H : Heap) (locs : List Loc) (ls : Array Slot), f_X4_isDry_L5 V n y1 y2 y3 y4 = some r → va_P D vwCl (MW cy a V) H → va_D A (MW cy a V) → va_S A s.heap H locs → lv_has ls 6 [(0, .ref (a 0)), (1, .int y1), (2, .int y2), (3, .int y3), (4, .int y4)] → W p l e (RM 1 22) s m args below meth c H locs 0 0 Q (F0 m 5 ls []) := by
    intro n
    induction n with
    | zero =>
      intro y1 y2 y3 y4 H locs ls hc
      cases hc
    | succ n ih =>
      intro y1 y2 y3 y4 H locs ls hc hP hD hS hl
      refine lv_iload hx hb dX4_isDry_5 (lv_at hl 4 rfl) ?_
      refine lv_aload_n hx hb dX4_isDry_7 rfl (lv_at hl 0 rfl) ?_
      refine va_get (ci := 4) (v := .ref (a 1)) (C := RX4) (T := TX4) (N := 12) hx hb hts inw_X4 hown hK.1 hP 0 rfl rfl 0 (by decide) fl_7 (fun _ h9 => h9) rfl dX4_isDry_8 ?_
      refine lv_iconst (v := 4) hx hb dX4_isDry_11 (by decide) ?_
      refine g_iald (x := V 1 4) hx hb hK hP 1 rfl (vp_lit (by decide)) rfl dX4_isDry_12 ?_
      refine lv_icmp_ge (tgt := 78) hx hb dX4_isDry_13 (by decide) (fun c1 => ?_) (fun c1 => ?_)
      · replace hc := ite_t c1 hc
        refine lv_iload_n hx hb dX4_isDry_78 rfl (lv_at hl 3 rfl) ?_
        obtain ⟨hz2, hc⟩ := bz_some hc
        exact hend H locs _ _ _ (some_one hc) (by rcases hz2 with h9 | h9 <;> rw [h9] <;> rfl) hP hD hS dX4_isDry_79
      · replace hc := ite_f c1 hc
        refine lv_sipush (v := 152) hx hb dX4_isDry_16 (by decide +kernel) ?_
        refine lv_iconst (v := 3) hx hb dX4_isDry_19 (by decide) ?_
        refine lv_iload hx hb dX4_isDry_20 (lv_at hl 4 rfl) ?_
        refine lv_imul hx hb dX4_isDry_22 ?_
        refine lv_iadd hx hb dX4_isDry_23 ?_
        refine lv_istore (lv' := [(5, .int (152 + (3 * y4))), (0, .ref (a 0)), (1, .int y1), (2, .int y2), (3, .int y3), (4, .int y4)]) hx hb dX4_isDry_24 hl (by decide) rfl (fun ls hl => ?_)
        refine lv_iload_n hx hb dX4_isDry_26 rfl (lv_at hl 4 rfl) ?_
        refine lv_if_ne (tgt := 66) hx hb dX4_isDry_27 (by decide) (fun c3 => ?_) (fun c3 => ?_)
        · replace hc := ite_f c3 hc
          refine lv_iconst (v := 1) hx hb dX4_isDry_66 (by decide) ?_
          refine lv_goto (tgt := 71) hx hb dX4_isDry_67 (by decide) ?_
          refine lv_istore_n (lv' := [(3, .int 1), (5, .int (152 + (3 * y4))), (0, .ref (a 0)), (1, .int y1), (2, .int y2), (4, .int y4)]) hx hb dX4_isDry_71 rfl hl (by decide) rfl (fun ls hl => ?_)
          refine lv_iinc (v := y4 + 1) (lv' := [(4, .int (y4 + 1)), (3, .int 1), (5, .int (152 + (3 * y4))), (0, .ref (a 0)), (1, .int y1), (2, .int y2)]) hx hb dX4_isDry_72 hl (k := 5) rfl rfl (by decide) rfl (fun ls hl => ?_)
          refine lv_goto (tgt := 5) hx hb dX4_isDry_75 (by decide) ?_
          exact ih y1 y2 1 (y4 + 1) H locs ls hc hP hD hS (lv_sub hl [3, 4, 5, 1, 0] rfl)
        · replace hc := ite_t c3 hc
          refine lv_aload_n hx hb dX4_isDry_30 rfl (lv_at hl 1 rfl) ?_
          refine va_get (ci := 4) (v := .ref (a 1)) (C := RX4) (T := TX4) (N := 12) hx hb hts inw_X4 hown hK.1 hP 0 rfl rfl 0 (by decide) fl_7 (fun _ h9 => h9) rfl dX4_isDry_31 ?_
          refine lv_iload hx hb dX4_isDry_34 (lv_at hl 0 rfl) ?_
          obtain ⟨x4, hi4, hv4, hc⟩ := rd_some hc
          refine g_iald (x := x4) hx hb hK hP 1 rfl hi4 hv4 dX4_isDry_36 ?_
          refine lv_iload_n hx hb dX4_isDry_37 rfl (lv_at hl 2 rfl) ?_
          refine lv_icmp_ne (tgt := 70) hx hb dX4_isDry_38 (by decide) (fun c5 => ?_) (fun c5 => ?_)
          · replace hc := ite_f c5 hc
            refine lv_iconst (v := 0) hx hb dX4_isDry_70 (by decide) ?_
            refine lv_istore_n (lv' := [(3, .int 0), (5, .int (152 + (3 * y4))), (0, .ref (a 0)), (1, .int y1), (2, .int y2), (4, .int y4)]) hx hb dX4_isDry_71 rfl hl (by decide) rfl (fun ls hl => ?_)
            refine lv_iinc (v := y4 + 1) (lv' := [(4, .int (y4 + 1)), (3, .int 0), (5, .int (152 + (3 * y4))), (0, .ref (a 0)), (1, .int y1), (2, .int y2)]) hx hb dX4_isDry_72 hl (k := 5) rfl rfl (by decide) rfl (fun ls hl => ?_)
            refine lv_goto (tgt := 5) hx hb dX4_isDry_75 (by decide) ?_
            exact ih y1 y2 0 (y4 + 1) H locs ls hc hP hD hS (lv_sub hl [3, 4, 5, 1, 0] rfl)
          · replace hc := ite_t c5 hc
            refine lv_iload_n hx hb dX4_isDry_41 rfl (lv_at hl 3 rfl) ?_
            refine lv_aload_n hx hb dX4_isDry_42 rfl (lv_at hl 1 rfl) ?_
            refine va_get (ci := 4) (v := .ref (a 1)) (C := RX4) (T := TX4) (N := 12) hx hb hts inw_X4 hown hK.1 hP 0 rfl rfl 0 (by decide) fl_7 (fun _ h9 => h9) rfl dX4_isDry_43 ?_
            refine lv_iload hx hb dX4_isDry_46 (lv_at hl 0 rfl) ?_
            refine lv_iconst (v := 1) hx hb dX4_isDry_48 (by decide) ?_
            refine lv_iadd hx hb dX4_isDry_49 ?_
            obtain ⟨x6, hi6, hv6, hc⟩ := rd_some hc
            refine g_iald (x := x6) hx hb hK hP 1 rfl hi6 hv6 dX4_isDry_50 ?_
            refine lv_aload_n hx hb dX4_isDry_51 rfl (lv_at hl 1 rfl) ?_
            refine va_get (ci := 4) (v := .ref (a 1)) (C := RX4) (T := TX4) (N := 12) hx hb hts inw_X4 hown hK.1 hP 0 rfl rfl 0 (by decide) fl_7 (fun _ h9 => h9) rfl dX4_isDry_52 ?_
            refine lv_iload hx hb dX4_isDry_55 (lv_at hl 0 rfl) ?_
            refine lv_iconst (v := 2) hx hb dX4_isDry_57 (by decide) ?_
            refine lv_iadd hx hb dX4_isDry_58 ?_
            obtain ⟨x7, hi7, hv7, hc⟩ := rd_some hc
            refine g_iald (x := x7) hx hb hK hP 1 rfl hi7 hv7 dX4_isDry_59 ?_
            obtain ⟨x8, hc8, hc⟩ := b1_some hc
            refine gc_SI (n := 3) (w' := MW cy a V) hx hb hml hown hts hK hP hD hS hA hl.1 ⟨Nat.le_refl _, Nat.le_refl _⟩ (C_X4_in l D cy y2 x6 x7 x8 hc8) gX4_isDry_X4_in rfl (by decide +kernel) rfl ⟨by decide, by decide⟩ Jn.none rfl (Nat.le_of_ble_eq_true rfl) dX4_isDry_60 (fun H locs hP hD hS => ?_)
            refine lv_if_eq (tgt := 70) hx hb dX4_isDry_63 (by decide) (fun c9 => ?_) (fun c9 => ?_)
            · replace hc := ite_t c9 hc
              refine lv_iconst (v := 0) hx hb dX4_isDry_70 (by decide) ?_
              refine lv_istore_n (lv' := [(3, .int 0), (5, .int (152 + (3 * y4))), (0, .ref (a 0)), (1, .int y1), (2, .int y2), (4, .int y4)]) hx hb dX4_isDry_71 rfl hl (by decide) rfl (fun ls hl => ?_)
              refine lv_iinc (v := y4 + 1) (lv' := [(4, .int (y4 + 1)), (3, .int 0), (5, .int (152 + (3 * y4))), (0, .ref (a 0)), (1, .int y1), (2, .int y2)]) hx hb dX4_isDry_72 hl (k := 5) rfl rfl (by decide) rfl (fun ls hl => ?_)
              refine lv_goto (tgt := 5) hx hb dX4_isDry_75 (by decide) ?_
              exact ih y1 y2 0 (y4 + 1) H locs ls hc hP hD hS (lv_sub hl [3, 4, 5, 1, 0] rfl)
            · replace hc := ite_f c9 hc
              refine lv_iconst (v := 1) hx hb dX4_isDry_66 (by decide) ?_
              refine lv_goto (tgt := 71) hx hb dX4_isDry_67 (by decide) ?_
              refine lv_istore_n (lv' := [(3, .int 1), (5, .int (152 + (3 * y4))), (0, .ref (a 0)), (1, .int y1), (2, .int y2), (4, .int y4)]) hx hb dX4_isDry_71 rfl hl (by decide) rfl (fun ls hl => ?_)
              refine lv_iinc (v := y4 + 1) (lv' := [(4, .int (y4 + 1)), (3, .int 1), (5, .int (152 + (3 * y4))), (0, .ref (a 0)), (1, .int y1), (2, .int y2)]) hx hb dX4_isDry_72 hl (k := 5) rfl rfl (by decide) rfl (fun ls hl => ?_)
              refine lv_goto (tgt := 5) hx hb dX4_isDry_75 (by decide) ?_
              exact ih y1 y2 1 (y4 + 1) H locs ls hc hP hD hS (lv_sub hl [3, 4, 5, 1, 0] rfl)
  obtain ⟨H, hHe⟩ : ∃ H : Heap, H = s.heap := ⟨_, rfl⟩
  obtain ⟨locs, hLe⟩ : ∃ x : List Loc, x = [] := ⟨_, rfl⟩
  have hP : va_P D vwCl (MW cy a V) H := by rw [hHe]; exact hP
  have hS : va_S A s.heap H locs := by rw [hHe, hLe]; exact hS
  have goal0 : W p l e (RM 1 22) s m args below meth c H locs 0 0 Q (F0 m 0 ls []) := by
    refine lv_iconst (v := 0) hx hb dX4_isDry_0 (by decide) ?_
    refine lv_istore_n (lv' := [(3, .int 0), (0, .ref (a 0)), (1, .int p1), (2, .int p2)]) hx hb dX4_isDry_1 rfl hl (by decide) rfl (fun ls hl => ?_)
    refine lv_iconst (v := 0) hx hb dX4_isDry_2 (by decide) ?_
    refine lv_istore (lv' := [(4, .int 0), (3, .int 0), (0, .ref (a 0)), (1, .int p1), (2, .int p2)]) hx hb dX4_isDry_3 hl (by decide) rfl (fun ls hl => ?_)
    exact L5 FUEL p1 p2 0 0 H locs ls hc hP hD hS (lv_sub hl [2, 3, 4, 1, 0] rfl)
  rw [hHe, hLe] at goal0
  exact goal0
set_option maxHeartbeats 4000000 in
set_option maxRecDepth 100000 in
theorem C_X4_belowMany (l : Launch) (D : va_G) (cy : Nat → ClassId) (a : Nat → Nat) (V : FV) (p1 : Int32) (r : Int32) (hc : f_X4_belowMany V p1 = some r) : ConI l yX4_belowMany wsX4_belowMany 1 22 D cy (MW cy a) [.ref (a 0), .int p1] V V r := by
  refine bodyI (cc := cX4_belowMany) (maxL := 4) (ty := .int) (by decide +kernel) rfl (Nat.le_of_ble_eq_true rfl) ?_
  intro p e s m args below meth c A Q hx hb hml hts hown hK hP hD hA hS hend ls hl
  have hown : s.vm.findClass RX4 = some m.cls := hown
  have hP : va_P D vwCl (MW cy a V) s.heap := hP
  have hD : va_D A (MW cy a V) := hD
  have hl : lv_has ls 4 [(0, .ref (a 0)), (1, .int p1)] := hl
  have hend : ∀ (H : Heap) (locs : List Loc) (pc : Nat) (ls : Array Slot) (v : Int32), v = r → narrow .int (.int v) = .int v → va_P D vwCl (MW cy a V) H → va_D A (MW cy a V) → va_S A s.heap H locs → decode cX4_belowMany pc = .ok (.ireturn, 1) → W p l e (RM 1 22) s m args below meth c H locs 0 0 Q (F0 m pc ls [.int v]) := fun H locs pc ls v h1 h3 h4 h5 h6 h7 => hend H locs pc ls v V h1 rfl h3 h4 h5 h6 h7
  have fl_7 := hts (.fieldLink RX4 7 "NoonWellsModel" "now" "[I") (by decide +kernel)
  have inw_X4 := (by decide +kernel : ∀ w ∈ u_ws RX4 TX4 12, w ∈ wsX4_belowMany)
  have L4 : ∀ (n : Nat), ∀ (y1 y2 y3 : Int32) (H : Heap) (locs : List Loc) (ls : Array Slot), f_X4_belowMany_L4 V n y1 y2 y3 = some r → va_P D vwCl (MW cy a V) H → va_D A (MW cy a V) → va_S A s.heap H locs → lv_has ls 4 [(0, .ref (a 0)), (1, .int y1), (2, .int y2), (3, .int y3)] → W p l e (RM 1 22) s m args below meth c H locs 0 0 Q (F0 m 4 ls []) := by
    intro n
    induction n with
    | zero =>
      intro y1 y2 y3 H locs ls hc
      cases hc
    | succ n ih =>
      intro y1 y2 y3 H locs ls hc hP hD hS hl
      refine lv_iload_n hx hb dX4_belowMany_4 rfl (lv_at hl 3 rfl) ?_
      refine lv_aload_n hx hb dX4_belowMany_5 rfl (lv_at hl 0 rfl) ?_
      refine va_get (ci := 4) (v := .ref (a 1)) (C := RX4) (T := TX4) (N := 12) hx hb hts inw_X4 hown hK.1 hP 0 rfl rfl 0 (by decide) fl_7 (fun _ h9 => h9) rfl dX4_belowMany_6 ?_
      refine lv_iconst (v := 3) hx hb dX4_belowMany_9 (by decide) ?_
      refine g_iald (x := V 1 3) hx hb hK hP 1 rfl (vp_lit (by decide)) rfl dX4_belowMany_10 ?_
      refine lv_icmp_ge (tgt := 38) hx hb dX4_belowMany_11 (by decide) (fun c1 => ?_) (fun c1 => ?_)
      · replace hc := ite_t c1 hc
        refine lv_iload_n hx hb dX4_belowMany_38 rfl (lv_at hl 2 rfl) ?_
        exact hend H locs _ _ _ (some_one hc) rfl hP hD hS dX4_belowMany_39
      · replace hc := ite_f c1 hc
        refine lv_iload_n hx hb dX4_belowMany_14 rfl (lv_at hl 2 rfl) ?_
        refine lv_aload_n hx hb dX4_belowMany_15 rfl (lv_at hl 0 rfl) ?_
        refine lv_iload_n hx hb dX4_belowMany_16 rfl (lv_at hl 3 rfl) ?_
        refine lv_iconst (v := 0) hx hb dX4_belowMany_17 (by decide) ?_
        obtain ⟨x2, hc2, hc⟩ := b1_some hc
        refine gc_VI (n := 2) (q0 := 0) (ci := 4) (w' := MW cy a V) hx hb hml hown hts hK hP hD hS hA hl.1 ⟨Nat.le_refl _, Nat.le_refl _⟩ (C_X4_of l D cy a V y3 0 x2 hc2) gX4_belowMany_X4_of rfl (by decide +kernel) rfl ⟨by decide, by decide⟩ Jn.same rfl rfl rfl (Nat.le_of_ble_eq_true rfl) dX4_belowMany_18 (fun H locs hP hD hS => ?_)
        refine lv_iload_n hx hb dX4_belowMany_21 rfl (lv_at hl 1 rfl) ?_
        refine lv_icmp_ne (tgt := 29) hx hb dX4_belowMany_22 (by decide) (fun c3 => ?_) (fun c3 => ?_)
        · replace hc := ite_f c3 hc
          refine lv_iconst (v := 0) hx hb dX4_belowMany_29 (by decide) ?_
          refine lv_iadd hx hb dX4_belowMany_30 ?_
          refine lv_istore_n (lv' := [(2, .int (y2 + 0)), (0, .ref (a 0)), (1, .int y1), (3, .int y3)]) hx hb dX4_belowMany_31 rfl hl (by decide) rfl (fun ls hl => ?_)
          refine lv_iinc (v := y3 + 1) (lv' := [(3, .int (y3 + 1)), (2, .int (y2 + 0)), (0, .ref (a 0)), (1, .int y1)]) hx hb dX4_belowMany_32 hl (k := 3) rfl rfl (by decide) rfl (fun ls hl => ?_)
          refine lv_goto (tgt := 4) hx hb dX4_belowMany_35 (by decide) ?_
          exact ih y1 (y2 + 0) (y3 + 1) H locs ls hc hP hD hS (lv_sub hl [2, 3, 1, 0] rfl)
        · replace hc := ite_t c3 hc
          refine lv_iconst (v := 1) hx hb dX4_belowMany_25 (by decide) ?_
          refine lv_goto (tgt := 30) hx hb dX4_belowMany_26 (by decide) ?_
          refine lv_iadd hx hb dX4_belowMany_30 ?_
          refine lv_istore_n (lv' := [(2, .int (y2 + 1)), (0, .ref (a 0)), (1, .int y1), (3, .int y3)]) hx hb dX4_belowMany_31 rfl hl (by decide) rfl (fun ls hl => ?_)
          refine lv_iinc (v := y3 + 1) (lv' := [(3, .int (y3 + 1)), (2, .int (y2 + 1)), (0, .ref (a 0)), (1, .int y1)]) hx hb dX4_belowMany_32 hl (k := 3) rfl rfl (by decide) rfl (fun ls hl => ?_)
          refine lv_goto (tgt := 4) hx hb dX4_belowMany_35 (by decide) ?_
          exact ih y1 (y2 + 1) (y3 + 1) H locs ls hc hP hD hS (lv_sub hl [2, 3, 1, 0] rfl)
  obtain ⟨H, hHe⟩ : ∃ H : Heap, H = s.heap := ⟨_, rfl⟩
  obtain ⟨locs, hLe⟩ : ∃ x : List Loc, x = [] := ⟨_, rfl⟩
  have hP : va_P D vwCl (MW cy a V) H := by rw [hHe]; exact hP
  have hS : va_S A s.heap H locs := by rw [hHe, hLe]; exact hS
  have goal0 : W p l e (RM 1 22) s m args below meth c H locs 0 0 Q (F0 m 0 ls []) := by
    refine lv_iconst (v := 0) hx hb dX4_belowMany_0 (by decide) ?_
    refine lv_istore_n (lv' := [(2, .int 0), (0, .ref (a 0)), (1, .int p1)]) hx hb dX4_belowMany_1 rfl hl (by decide) rfl (fun ls hl => ?_)
    refine lv_iconst (v := 0) hx hb dX4_belowMany_2 (by decide) ?_
    refine lv_istore_n (lv' := [(3, .int 0), (2, .int 0), (0, .ref (a 0)), (1, .int p1)]) hx hb dX4_belowMany_3 rfl hl (by decide) rfl (fun ls hl => ?_)
    exact L4 FUEL p1 0 0 H locs ls hc hP hD hS (lv_sub hl [2, 3, 1, 0] rfl)
  rw [hHe, hLe] at goal0
  exact goal0
set_option maxHeartbeats 4000000 in
set_option maxRecDepth 100000 in
theorem C_X4_wellOf (l : Launch) (D : va_G) (cy : Nat → ClassId) (a : Nat → Nat) (V : FV) (p1 : Int32) (p2 : Int32) (r : Int32) (hc : f_X4_wellOf V p1 p2 = some r) : ConI l yX4_wellOf wsX4_wellOf 2 47 D cy (MW cy a) [.ref (a 0), .int p1, .int p2] V V r := by
  refine bodyI (cc := cX4_wellOf) (maxL := 3) (ty := .int) (by decide +kernel) rfl (Nat.le_of_ble_eq_true rfl) ?_
  intro p e s m args below meth c A Q hx hb hml hts hown hK hP hD hA hS hend ls hl
  have hown : s.vm.findClass RX4 = some m.cls := hown
  have hP : va_P D vwCl (MW cy a V) s.heap := hP
  have hD : va_D A (MW cy a V) := hD
  have hl : lv_has ls 3 [(0, .ref (a 0)), (1, .int p1), (2, .int p2)] := hl
  have hend : ∀ (H : Heap) (locs : List Loc) (pc : Nat) (ls : Array Slot) (v : Int32), v = r → narrow .int (.int v) = .int v → va_P D vwCl (MW cy a V) H → va_D A (MW cy a V) → va_S A s.heap H locs → decode cX4_wellOf pc = .ok (.ireturn, 1) → W p l e (RM 2 47) s m args below meth c H locs 0 0 Q (F0 m pc ls [.int v]) := fun H locs pc ls v h1 h3 h4 h5 h6 h7 => hend H locs pc ls v V h1 rfl h3 h4 h5 h6 h7
  have fl_7 := hts (.fieldLink RX4 7 "NoonWellsModel" "now" "[I") (by decide +kernel)
  have inw_X4 := (by decide +kernel : ∀ w ∈ u_ws RX4 TX4 12, w ∈ wsX4_wellOf)
  obtain ⟨H, hHe⟩ : ∃ H : Heap, H = s.heap := ⟨_, rfl⟩
  obtain ⟨locs, hLe⟩ : ∃ x : List Loc, x = [] := ⟨_, rfl⟩
  have hP : va_P D vwCl (MW cy a V) H := by rw [hHe]; exact hP
  have hS : va_S A s.heap H locs := by rw [hHe, hLe]; exact hS
  have goal0 : W p l e (RM 2 47) s m args below meth c H locs 0 0 Q (F0 m 0 ls []) := by
    refine lv_aload_n hx hb dX4_wellOf_0 rfl (lv_at hl 0 rfl) ?_
    refine lv_iload_n hx hb dX4_wellOf_1 rfl (lv_at hl 1 rfl) ?_
    obtain ⟨x1, hc1, hc⟩ := b1_some hc
    refine gc_VI (n := 1) (q0 := 0) (ci := 4) (w' := MW cy a V) hx hb hml hown hts hK hP hD hS hA hl.1 ⟨Nat.le_refl _, Nat.le_refl _⟩ (C_X4_isWell l D cy a V p1 x1 hc1) gX4_wellOf_X4_isWell rfl (by decide +kernel) rfl ⟨by decide, by decide⟩ Jn.same rfl rfl rfl (Nat.le_of_ble_eq_true rfl) dX4_wellOf_2 (fun H locs hP hD hS => ?_)
    refine lv_if_eq (tgt := 18) hx hb dX4_wellOf_5 (by decide) (fun c2 => ?_) (fun c2 => ?_)
    · replace hc := ite_t c2 hc
      refine lv_iconst (v := (-1)) hx hb dX4_wellOf_18 (by decide) ?_
      exact hend H locs _ _ _ (some_one hc) rfl hP hD hS dX4_wellOf_19
    · replace hc := ite_f c2 hc
      refine lv_iload_n hx hb dX4_wellOf_8 rfl (lv_at hl 2 rfl) ?_
      refine lv_iconst (v := 0) hx hb dX4_wellOf_9 (by decide) ?_
      refine lv_bipush (v := 13) hx hb dX4_wellOf_10 (by decide +kernel) ?_
      obtain ⟨x3, hc3, hc⟩ := b1_some hc
      refine gc_SI (n := 3) (w' := MW cy a V) hx hb hml hown hts hK hP hD hS hA hl.1 ⟨Nat.le_refl _, Nat.le_refl _⟩ (C_X4_in l D cy p2 0 13 x3 hc3) gX4_wellOf_X4_in rfl (by decide +kernel) rfl ⟨by decide, by decide⟩ Jn.none rfl (Nat.le_of_ble_eq_true rfl) dX4_wellOf_12 (fun H locs hP hD hS => ?_)
      refine lv_if_ne (tgt := 20) hx hb dX4_wellOf_15 (by decide) (fun c4 => ?_) (fun c4 => ?_)
      · replace hc := ite_f c4 hc
        refine lv_iload_n hx hb dX4_wellOf_20 rfl (lv_at hl 2 rfl) ?_
        refine lv_bipush (v := 12) hx hb dX4_wellOf_21 (by decide +kernel) ?_
        refine lv_icmp_ne (tgt := 32) hx hb dX4_wellOf_23 (by decide) (fun c5 => ?_) (fun c5 => ?_)
        · replace hc := ite_f c5 hc
          refine lv_iload_n hx hb dX4_wellOf_32 rfl (lv_at hl 2 rfl) ?_
          refine lv_bipush (v := 13) hx hb dX4_wellOf_33 (by decide +kernel) ?_
          refine lv_icmp_ne (tgt := 60) hx hb dX4_wellOf_35 (by decide) (fun c6 => ?_) (fun c6 => ?_)
          · replace hc := ite_f c6 hc
            refine lv_iload_n hx hb dX4_wellOf_60 rfl (lv_at hl 2 rfl) ?_
            refine lv_if_ne (tgt := 73) hx hb dX4_wellOf_61 (by decide) (fun c7 => ?_) (fun c7 => ?_)
            · replace hc := ite_f c7 hc
              refine lv_aload_n hx hb dX4_wellOf_73 rfl (lv_at hl 0 rfl) ?_
              refine lv_iload_n hx hb dX4_wellOf_74 rfl (lv_at hl 1 rfl) ?_
              refine lv_iload_n hx hb dX4_wellOf_75 rfl (lv_at hl 2 rfl) ?_
              obtain ⟨x8, hc8, hc⟩ := b1_some hc
              refine gc_VI (n := 2) (q0 := 0) (ci := 4) (w' := MW cy a V) hx hb hml hown hts hK hP hD hS hA hl.1 ⟨Nat.le_refl _, Nat.le_refl _⟩ (C_X4_of l D cy a V p1 p2 x8 hc8) gX4_wellOf_X4_of rfl (by decide +kernel) rfl ⟨by decide, by decide⟩ Jn.same rfl rfl rfl (Nat.le_of_ble_eq_true rfl) dX4_wellOf_76 (fun H locs hP hD hS => ?_)
              exact hend H locs _ _ _ (some_one hc) rfl hP hD hS dX4_wellOf_79
            · replace hc := ite_t c7 hc
              refine lv_iload_n hx hb dX4_wellOf_64 rfl (lv_at hl 1 rfl) ?_
              refine lv_if_ne (tgt := 73) hx hb dX4_wellOf_65 (by decide) (fun c9 => ?_) (fun c9 => ?_)
              · replace hc := ite_f c9 hc
                refine lv_aload_n hx hb dX4_wellOf_73 rfl (lv_at hl 0 rfl) ?_
                refine lv_iload_n hx hb dX4_wellOf_74 rfl (lv_at hl 1 rfl) ?_
                refine lv_iload_n hx hb dX4_wellOf_75 rfl (lv_at hl 2 rfl) ?_
                obtain ⟨x10, hc10, hc⟩ := b1_some hc
                refine gc_VI (n := 2) (q0 := 0) (ci := 4) (w' := MW cy a V) hx hb hml hown hts hK hP hD hS hA hl.1 ⟨Nat.le_refl _, Nat.le_refl _⟩ (C_X4_of l D cy a V p1 p2 x10 hc10) gX4_wellOf_X4_of rfl (by decide +kernel) rfl ⟨by decide, by decide⟩ Jn.same rfl rfl rfl (Nat.le_of_ble_eq_true rfl) dX4_wellOf_76 (fun H locs hP hD hS => ?_)
                exact hend H locs _ _ _ (some_one hc) rfl hP hD hS dX4_wellOf_79
              · replace hc := ite_t c9 hc
                refine lv_bipush (v := (-4)) hx hb dX4_wellOf_68 (by decide +kernel) ?_
                refine lv_goto (tgt := 79) hx hb dX4_wellOf_70 (by decide) ?_
                exact hend H locs _ _ _ (some_one hc) rfl hP hD hS dX4_wellOf_79
          · replace hc := ite_t c6 hc
            refine lv_aload_n hx hb dX4_wellOf_38 rfl (lv_at hl 0 rfl) ?_
            refine lv_iload_n hx hb dX4_wellOf_39 rfl (lv_at hl 1 rfl) ?_
            refine lv_aload_n hx hb dX4_wellOf_40 rfl (lv_at hl 0 rfl) ?_
            refine va_get (ci := 4) (v := .ref (a 1)) (C := RX4) (T := TX4) (N := 12) hx hb hts inw_X4 hown hK.1 hP 0 rfl rfl 0 (by decide) fl_7 (fun _ h9 => h9) rfl dX4_wellOf_41 ?_
            refine lv_iconst (v := 0) hx hb dX4_wellOf_44 (by decide) ?_
            refine g_iald (x := V 1 0) hx hb hK hP 1 rfl (vp_lit (by decide)) rfl dX4_wellOf_45 ?_
            refine lv_iconst (v := 1) hx hb dX4_wellOf_46 (by decide) ?_
            refine lv_iadd hx hb dX4_wellOf_47 ?_
            obtain ⟨x11, hc11, hc⟩ := b1_some hc
            refine gc_VI (n := 2) (q0 := 0) (ci := 4) (w' := MW cy a V) hx hb hml hown hts hK hP hD hS hA hl.1 ⟨Nat.le_refl _, Nat.le_refl _⟩ (C_X4_isDry l D cy a V p1 ((V 1 0) + 1) x11 hc11) gX4_wellOf_X4_isDry rfl (by decide +kernel) rfl ⟨by decide, by decide⟩ Jn.same rfl rfl rfl (Nat.le_of_ble_eq_true rfl) dX4_wellOf_48 (fun H locs hP hD hS => ?_)
            refine lv_if_eq (tgt := 58) hx hb dX4_wellOf_51 (by decide) (fun c12 => ?_) (fun c12 => ?_)
            · replace hc := ite_t c12 hc
              refine lv_iconst (v := 0) hx hb dX4_wellOf_58 (by decide) ?_
              exact hend H locs _ _ _ (some_one hc) rfl hP hD hS dX4_wellOf_59
            · replace hc := ite_f c12 hc
              refine lv_iconst (v := 1) hx hb dX4_wellOf_54 (by decide) ?_
              refine lv_goto (tgt := 59) hx hb dX4_wellOf_55 (by decide) ?_
              exact hend H locs _ _ _ (some_one hc) rfl hP hD hS dX4_wellOf_59
        · replace hc := ite_t c5 hc
          refine lv_aload_n hx hb dX4_wellOf_26 rfl (lv_at hl 0 rfl) ?_
          refine lv_iload_n hx hb dX4_wellOf_27 rfl (lv_at hl 1 rfl) ?_
          obtain ⟨x13, hc13, hc⟩ := b1_some hc
          refine gc_VI (n := 1) (q0 := 0) (ci := 4) (w' := MW cy a V) hx hb hml hown hts hK hP hD hS hA hl.1 ⟨Nat.le_refl _, Nat.le_refl _⟩ (C_X4_belowMany l D cy a V p1 x13 hc13) gX4_wellOf_X4_belowMany rfl (by decide +kernel) rfl ⟨by decide, by decide⟩ Jn.same rfl rfl rfl (Nat.le_of_ble_eq_true rfl) dX4_wellOf_28 (fun H locs hP hD hS => ?_)
          exact hend H locs _ _ _ (some_one hc) rfl hP hD hS dX4_wellOf_31
      · replace hc := ite_t c4 hc
        refine lv_iconst (v := (-1)) hx hb dX4_wellOf_18 (by decide) ?_
        exact hend H locs _ _ _ (some_one hc) rfl hP hD hS dX4_wellOf_19
  rw [hHe, hLe] at goal0
  exact goal0
set_option maxHeartbeats 4000000 in
set_option maxRecDepth 100000 in
theorem C_X4_aboveAt (l : Launch) (D : va_G) (cy : Nat → ClassId) (a : Nat → Nat) (V : FV) (p1 : Int32) (p2 : Int32) (r : Int32) (hc : f_X4_aboveAt V p1 p2 = some r) : ConI l yX4_aboveAt wsX4_aboveAt 2 43 D cy (MW cy a) [.ref (a 0), .int p1, .int p2] V V r := by
  refine bodyI (cc := cX4_aboveAt) (maxL := 5) (ty := .int) (by decide +kernel) rfl (Nat.le_of_ble_eq_true rfl) ?_
  intro p e s m args below meth c A Q hx hb hml hts hown hK hP hD hA hS hend ls hl
  have hown : s.vm.findClass RX4 = some m.cls := hown
  have hP : va_P D vwCl (MW cy a V) s.heap := hP
  have hD : va_D A (MW cy a V) := hD
  have hl : lv_has ls 5 [(0, .ref (a 0)), (1, .int p1), (2, .int p2)] := hl
  have hend : ∀ (H : Heap) (locs : List Loc) (pc : Nat) (ls : Array Slot) (v : Int32), v = r → narrow .int (.int v) = .int v → va_P D vwCl (MW cy a V) H → va_D A (MW cy a V) → va_S A s.heap H locs → decode cX4_aboveAt pc = .ok (.ireturn, 1) → W p l e (RM 2 43) s m args below meth c H locs 0 0 Q (F0 m pc ls [.int v]) := fun H locs pc ls v h1 h3 h4 h5 h6 h7 => hend H locs pc ls v V h1 rfl h3 h4 h5 h6 h7
  have L24 : ∀ (n : Nat), ∀ (y1 y2 y3 y4 : Int32) (H : Heap) (locs : List Loc) (ls : Array Slot), f_X4_aboveAt_L24 V n y1 y2 y3 y4 = some r → va_P D vwCl (MW cy a V) H → va_D A (MW cy a V) → va_S A s.heap H locs → lv_has ls 5 [(0, .ref (a 0)), (1, .int y1), (2, .int y2), (3, .int y3), (4, .int y4)] → W p l e (RM 2 43) s m args below meth c H locs 0 0 Q (F0 m 24 ls []) := by
    intro n
    induction n with
    | zero =>
      intro y1 y2 y3 y4 H locs ls hc
      cases hc
    | succ n ih =>
      intro y1 y2 y3 y4 H locs ls hc hP hD hS hl
      refine lv_iload hx hb dX4_aboveAt_24 (lv_at hl 4 rfl) ?_
      refine lv_iload_n hx hb dX4_aboveAt_26 rfl (lv_at hl 2 rfl) ?_
      refine lv_icmp_ge (tgt := 47) hx hb dX4_aboveAt_27 (by decide) (fun c5 => ?_) (fun c5 => ?_)
      · replace hc := ite_t c5 hc
        refine lv_iload_n hx hb dX4_aboveAt_47 rfl (lv_at hl 3 rfl) ?_
        refine lv_if_ge (tgt := 56) hx hb dX4_aboveAt_48 (by decide) (fun c6 => ?_) (fun c6 => ?_)
        · replace hc := ite_t c6 hc
          refine lv_iload_n hx hb dX4_aboveAt_56 rfl (lv_at hl 3 rfl) ?_
          exact hend H locs _ _ _ (some_one hc) rfl hP hD hS dX4_aboveAt_57
        · replace hc := ite_f c6 hc
          refine lv_bipush (v := (-4)) hx hb dX4_aboveAt_51 (by decide +kernel) ?_
          refine lv_goto (tgt := 57) hx hb dX4_aboveAt_53 (by decide) ?_
          exact hend H locs _ _ _ (some_one hc) rfl hP hD hS dX4_aboveAt_57
      · replace hc := ite_f c5 hc
        refine lv_iload_n hx hb dX4_aboveAt_30 rfl (lv_at hl 3 rfl) ?_
        refine lv_if_lt (tgt := 47) hx hb dX4_aboveAt_31 (by decide) (fun c7 => ?_) (fun c7 => ?_)
        · replace hc := ite_t c7 hc
          refine lv_iload_n hx hb dX4_aboveAt_47 rfl (lv_at hl 3 rfl) ?_
          refine lv_if_ge (tgt := 56) hx hb dX4_aboveAt_48 (by decide) (fun c8 => ?_) (fun c8 => ?_)
          · replace hc := ite_t c8 hc
            refine lv_iload_n hx hb dX4_aboveAt_56 rfl (lv_at hl 3 rfl) ?_
            exact hend H locs _ _ _ (some_one hc) rfl hP hD hS dX4_aboveAt_57
          · replace hc := ite_f c8 hc
            refine lv_bipush (v := (-4)) hx hb dX4_aboveAt_51 (by decide +kernel) ?_
            refine lv_goto (tgt := 57) hx hb dX4_aboveAt_53 (by decide) ?_
            exact hend H locs _ _ _ (some_one hc) rfl hP hD hS dX4_aboveAt_57
        · replace hc := ite_f c7 hc
          refine lv_aload_n hx hb dX4_aboveAt_34 rfl (lv_at hl 0 rfl) ?_
          refine lv_iload_n hx hb dX4_aboveAt_35 rfl (lv_at hl 3 rfl) ?_
          refine lv_iconst (v := 0) hx hb dX4_aboveAt_36 (by decide) ?_
          obtain ⟨x9, hc9, hc⟩ := b1_some hc
          refine gc_VI (n := 2) (q0 := 0) (ci := 4) (w' := MW cy a V) hx hb hml hown hts hK hP hD hS hA hl.1 ⟨Nat.le_refl _, Nat.le_refl _⟩ (C_X4_of l D cy a V y3 0 x9 hc9) gX4_aboveAt_X4_of rfl (by decide +kernel) rfl ⟨by decide, by decide⟩ Jn.same rfl rfl rfl (Nat.le_of_ble_eq_true rfl) dX4_aboveAt_37 (fun H locs hP hD hS => ?_)
          refine lv_istore_n (lv' := [(3, .int x9), (0, .ref (a 0)), (1, .int y1), (2, .int y2), (4, .int y4)]) hx hb dX4_aboveAt_40 rfl hl (by decide) rfl (fun ls hl => ?_)
          refine lv_iinc (v := y4 + 1) (lv' := [(4, .int (y4 + 1)), (3, .int x9), (0, .ref (a 0)), (1, .int y1), (2, .int y2)]) hx hb dX4_aboveAt_41 hl (k := 4) rfl rfl (by decide) rfl (fun ls hl => ?_)
          refine lv_goto (tgt := 24) hx hb dX4_aboveAt_44 (by decide) ?_
          exact ih y1 y2 x9 (y4 + 1) H locs ls hc hP hD hS (lv_sub hl [2, 3, 4, 1, 0] rfl)
  obtain ⟨H, hHe⟩ : ∃ H : Heap, H = s.heap := ⟨_, rfl⟩
  obtain ⟨locs, hLe⟩ : ∃ x : List Loc, x = [] := ⟨_, rfl⟩
  have hP : va_P D vwCl (MW cy a V) H := by rw [hHe]; exact hP
  have hS : va_S A s.heap H locs := by rw [hHe, hLe]; exact hS
  have goal0 : W p l e (RM 2 43) s m args below meth c H locs 0 0 Q (F0 m 0 ls []) := by
    refine lv_aload_n hx hb dX4_aboveAt_0 rfl (lv_at hl 0 rfl) ?_
    refine lv_iload_n hx hb dX4_aboveAt_1 rfl (lv_at hl 1 rfl) ?_
    obtain ⟨x1, hc1, hc⟩ := b1_some hc
    refine gc_VI (n := 1) (q0 := 0) (ci := 4) (w' := MW cy a V) hx hb hml hown hts hK hP hD hS hA hl.1 ⟨Nat.le_refl _, Nat.le_refl _⟩ (C_X4_isWell l D cy a V p1 x1 hc1) gX4_aboveAt_X4_isWell rfl (by decide +kernel) rfl ⟨by decide, by decide⟩ Jn.same rfl rfl rfl (Nat.le_of_ble_eq_true rfl) dX4_aboveAt_2 (fun H locs hP hD hS => ?_)
    refine lv_if_eq (tgt := 12) hx hb dX4_aboveAt_5 (by decide) (fun c2 => ?_) (fun c2 => ?_)
    · replace hc := ite_t c2 hc
      refine lv_iconst (v := (-1)) hx hb dX4_aboveAt_12 (by decide) ?_
      exact hend H locs _ _ _ (some_one hc) rfl hP hD hS dX4_aboveAt_13
    · replace hc := ite_f c2 hc
      refine lv_iload_n hx hb dX4_aboveAt_8 rfl (lv_at hl 2 rfl) ?_
      refine lv_if_ge (tgt := 14) hx hb dX4_aboveAt_9 (by decide) (fun c3 => ?_) (fun c3 => ?_)
      · replace hc := ite_t c3 hc
        refine lv_aload_n hx hb dX4_aboveAt_14 rfl (lv_at hl 0 rfl) ?_
        refine lv_iload_n hx hb dX4_aboveAt_15 rfl (lv_at hl 1 rfl) ?_
        refine lv_iconst (v := 0) hx hb dX4_aboveAt_16 (by decide) ?_
        obtain ⟨x4, hc4, hc⟩ := b1_some hc
        refine gc_VI (n := 2) (q0 := 0) (ci := 4) (w' := MW cy a V) hx hb hml hown hts hK hP hD hS hA hl.1 ⟨Nat.le_refl _, Nat.le_refl _⟩ (C_X4_of l D cy a V p1 0 x4 hc4) gX4_aboveAt_X4_of rfl (by decide +kernel) rfl ⟨by decide, by decide⟩ Jn.same rfl rfl rfl (Nat.le_of_ble_eq_true rfl) dX4_aboveAt_17 (fun H locs hP hD hS => ?_)
        refine lv_istore_n (lv' := [(3, .int x4), (0, .ref (a 0)), (1, .int p1), (2, .int p2)]) hx hb dX4_aboveAt_20 rfl hl (by decide) rfl (fun ls hl => ?_)
        refine lv_iconst (v := 0) hx hb dX4_aboveAt_21 (by decide) ?_
        refine lv_istore (lv' := [(4, .int 0), (3, .int x4), (0, .ref (a 0)), (1, .int p1), (2, .int p2)]) hx hb dX4_aboveAt_22 hl (by decide) rfl (fun ls hl => ?_)
        exact L24 FUEL p1 p2 x4 0 H locs ls hc hP hD hS (lv_sub hl [2, 3, 4, 1, 0] rfl)
      · replace hc := ite_f c3 hc
        refine lv_iconst (v := (-1)) hx hb dX4_aboveAt_12 (by decide) ?_
        exact hend H locs _ _ _ (some_one hc) rfl hP hD hS dX4_aboveAt_13
  rw [hHe, hLe] at goal0
  exact goal0
set_option maxHeartbeats 4000000 in
set_option maxRecDepth 100000 in
theorem C_X4_ableOf (l : Launch) (D : va_G) (cy : Nat → ClassId) (a : Nat → Nat) (V : FV) (p1 : Int32) (r : Int32) (hc : f_X4_ableOf V p1 = some r) : ConI l yX4_ableOf wsX4_ableOf 1 22 D cy (MW cy a) [.ref (a 0), .int p1] V V r := by
  refine bodyI (cc := cX4_ableOf) (maxL := 4) (ty := .int) (by decide +kernel) rfl (Nat.le_of_ble_eq_true rfl) ?_
  intro p e s m args below meth c A Q hx hb hml hts hown hK hP hD hA hS hend ls hl
  have hown : s.vm.findClass RX4 = some m.cls := hown
  have hP : va_P D vwCl (MW cy a V) s.heap := hP
  have hD : va_D A (MW cy a V) := hD
  have hl : lv_has ls 4 [(0, .ref (a 0)), (1, .int p1)] := hl
  have hend : ∀ (H : Heap) (locs : List Loc) (pc : Nat) (ls : Array Slot) (v : Int32), v = r → narrow .int (.int v) = .int v → va_P D vwCl (MW cy a V) H → va_D A (MW cy a V) → va_S A s.heap H locs → decode cX4_ableOf pc = .ok (.ireturn, 1) → W p l e (RM 1 22) s m args below meth c H locs 0 0 Q (F0 m pc ls [.int v]) := fun H locs pc ls v h1 h3 h4 h5 h6 h7 => hend H locs pc ls v V h1 rfl h3 h4 h5 h6 h7
  have L14 : ∀ (n : Nat), ∀ (y1 y2 y3 : Int32) (H : Heap) (locs : List Loc) (ls : Array Slot), f_X4_ableOf_L14 V n y1 y2 y3 = some r → va_P D vwCl (MW cy a V) H → va_D A (MW cy a V) → va_S A s.heap H locs → lv_has ls 4 [(0, .ref (a 0)), (1, .int y1), (2, .int y2), (3, .int y3)] → W p l e (RM 1 22) s m args below meth c H locs 0 0 Q (F0 m 14 ls []) := by
    intro n
    induction n with
    | zero =>
      intro y1 y2 y3 H locs ls hc
      cases hc
    | succ n ih =>
      intro y1 y2 y3 H locs ls hc hP hD hS hl
      refine lv_iload_n hx hb dX4_ableOf_14 rfl (lv_at hl 3 rfl) ?_
      refine lv_if_lt (tgt := 46) hx hb dX4_ableOf_15 (by decide) (fun c3 => ?_) (fun c3 => ?_)
      · replace hc := ite_t c3 hc
        refine lv_iload_n hx hb dX4_ableOf_46 rfl (lv_at hl 2 rfl) ?_
        exact hend H locs _ _ _ (some_one hc) rfl hP hD hS dX4_ableOf_47
      · replace hc := ite_f c3 hc
        refine lv_iload_n hx hb dX4_ableOf_18 rfl (lv_at hl 2 rfl) ?_
        refine lv_aload_n hx hb dX4_ableOf_19 rfl (lv_at hl 0 rfl) ?_
        refine lv_iload_n hx hb dX4_ableOf_20 rfl (lv_at hl 3 rfl) ?_
        refine lv_iconst (v := 4) hx hb dX4_ableOf_21 (by decide) ?_
        obtain ⟨x4, hc4, hc⟩ := b1_some hc
        refine gc_VI (n := 2) (q0 := 0) (ci := 4) (w' := MW cy a V) hx hb hml hown hts hK hP hD hS hA hl.1 ⟨Nat.le_refl _, Nat.le_refl _⟩ (C_X4_of l D cy a V y3 4 x4 hc4) gX4_ableOf_X4_of rfl (by decide +kernel) rfl ⟨by decide, by decide⟩ Jn.same rfl rfl rfl (Nat.le_of_ble_eq_true rfl) dX4_ableOf_22 (fun H locs hP hD hS => ?_)
        refine lv_aload_n hx hb dX4_ableOf_25 rfl (lv_at hl 0 rfl) ?_
        refine lv_iload_n hx hb dX4_ableOf_26 rfl (lv_at hl 3 rfl) ?_
        refine lv_iconst (v := 3) hx hb dX4_ableOf_27 (by decide) ?_
        obtain ⟨x5, hc5, hc⟩ := b1_some hc
        refine gc_VI (n := 2) (q0 := 0) (ci := 4) (w' := MW cy a V) hx hb hml hown hts hK hP hD hS hA hl.1 ⟨Nat.le_refl _, Nat.le_refl _⟩ (C_X4_of l D cy a V y3 3 x5 hc5) gX4_ableOf_X4_of rfl (by decide +kernel) rfl ⟨by decide, by decide⟩ Jn.same rfl rfl rfl (Nat.le_of_ble_eq_true rfl) dX4_ableOf_28 (fun H locs hP hD hS => ?_)
        obtain ⟨x6, hc6, hc⟩ := b1_some hc
        refine gc_SI (n := 2) (w' := MW cy a V) hx hb hml hown hts hK hP hD hS hA hl.1 ⟨Nat.le_refl _, Nat.le_refl _⟩ (C_X4_least l D cy x4 x5 x6 hc6) gX4_ableOf_X4_least rfl (by decide +kernel) rfl ⟨by decide, by decide⟩ Jn.none rfl (Nat.le_of_ble_eq_true rfl) dX4_ableOf_31 (fun H locs hP hD hS => ?_)
        refine lv_iadd hx hb dX4_ableOf_34 ?_
        refine lv_istore_n (lv' := [(2, .int (y2 + x6)), (0, .ref (a 0)), (1, .int y1), (3, .int y3)]) hx hb dX4_ableOf_35 rfl hl (by decide) rfl (fun ls hl => ?_)
        refine lv_aload_n hx hb dX4_ableOf_36 rfl (lv_at hl 1 rfl) ?_
        refine lv_iload_n hx hb dX4_ableOf_37 rfl (lv_at hl 3 rfl) ?_
        refine lv_iconst (v := 0) hx hb dX4_ableOf_38 (by decide) ?_
        obtain ⟨x7, hc7, hc⟩ := b1_some hc
        refine gc_VI (n := 2) (q0 := 0) (ci := 4) (w' := MW cy a V) hx hb hml hown hts hK hP hD hS hA hl.1 ⟨Nat.le_refl _, Nat.le_refl _⟩ (C_X4_of l D cy a V y3 0 x7 hc7) gX4_ableOf_X4_of rfl (by decide +kernel) rfl ⟨by decide, by decide⟩ Jn.same rfl rfl rfl (Nat.le_of_ble_eq_true rfl) dX4_ableOf_39 (fun H locs hP hD hS => ?_)
        refine lv_istore_n (lv' := [(3, .int x7), (2, .int (y2 + x6)), (0, .ref (a 0)), (1, .int y1)]) hx hb dX4_ableOf_42 rfl hl (by decide) rfl (fun ls hl => ?_)
        refine lv_goto (tgt := 14) hx hb dX4_ableOf_43 (by decide) ?_
        exact ih y1 (y2 + x6) x7 H locs ls hc hP hD hS (lv_sub hl [2, 3, 1, 0] rfl)
  obtain ⟨H, hHe⟩ : ∃ H : Heap, H = s.heap := ⟨_, rfl⟩
  obtain ⟨locs, hLe⟩ : ∃ x : List Loc, x = [] := ⟨_, rfl⟩
  have hP : va_P D vwCl (MW cy a V) H := by rw [hHe]; exact hP
  have hS : va_S A s.heap H locs := by rw [hHe, hLe]; exact hS
  have goal0 : W p l e (RM 1 22) s m args below meth c H locs 0 0 Q (F0 m 0 ls []) := by
    refine lv_aload_n hx hb dX4_ableOf_0 rfl (lv_at hl 0 rfl) ?_
    refine lv_iload_n hx hb dX4_ableOf_1 rfl (lv_at hl 1 rfl) ?_
    refine lv_iconst (v := 4) hx hb dX4_ableOf_2 (by decide) ?_
    obtain ⟨x1, hc1, hc⟩ := b1_some hc
    refine gc_VI (n := 2) (q0 := 0) (ci := 4) (w' := MW cy a V) hx hb hml hown hts hK hP hD hS hA hl.1 ⟨Nat.le_refl _, Nat.le_refl _⟩ (C_X4_of l D cy a V p1 4 x1 hc1) gX4_ableOf_X4_of rfl (by decide +kernel) rfl ⟨by decide, by decide⟩ Jn.same rfl rfl rfl (Nat.le_of_ble_eq_true rfl) dX4_ableOf_3 (fun H locs hP hD hS => ?_)
    refine lv_istore_n (lv' := [(2, .int x1), (0, .ref (a 0)), (1, .int p1)]) hx hb dX4_ableOf_6 rfl hl (by decide) rfl (fun ls hl => ?_)
    refine lv_aload_n hx hb dX4_ableOf_7 rfl (lv_at hl 1 rfl) ?_
    refine lv_iload_n hx hb dX4_ableOf_8 rfl (lv_at hl 2 rfl) ?_
    refine lv_iconst (v := 0) hx hb dX4_ableOf_9 (by decide) ?_
    obtain ⟨x2, hc2, hc⟩ := b1_some hc
    refine gc_VI (n := 2) (q0 := 0) (ci := 4) (w' := MW cy a V) hx hb hml hown hts hK hP hD hS hA hl.1 ⟨Nat.le_refl _, Nat.le_refl _⟩ (C_X4_of l D cy a V p1 0 x2 hc2) gX4_ableOf_X4_of rfl (by decide +kernel) rfl ⟨by decide, by decide⟩ Jn.same rfl rfl rfl (Nat.le_of_ble_eq_true rfl) dX4_ableOf_10 (fun H locs hP hD hS => ?_)
    refine lv_istore_n (lv' := [(3, .int x2), (2, .int x1), (0, .ref (a 0)), (1, .int p1)]) hx hb dX4_ableOf_13 rfl hl (by decide) rfl (fun ls hl => ?_)
    exact L14 FUEL p1 x1 x2 H locs ls hc hP hD hS (lv_sub hl [2, 3, 1, 0] rfl)
  rw [hHe, hLe] at goal0
  exact goal0
set_option maxHeartbeats 4000000 in
set_option maxRecDepth 100000 in
theorem C_X4_part (l : Launch) (D : va_G) (cy : Nat → ClassId) (a : Nat → Nat) (V : FV) (p1 : Int32) (p2 : Int32) (p3 : Int32) (r : Int32) (hc : f_X4_part V p1 p2 p3 = some r) : ConI l yX4_part wsX4_part 1 22 D cy (MW cy a) [.ref (a 0), .int p1, .int p2, .int p3] V V r := by
  refine bodyI (cc := cX4_part) (maxL := 4) (ty := .int) (by decide +kernel) rfl (Nat.le_of_ble_eq_true rfl) ?_
  intro p e s m args below meth c A Q hx hb hml hts hown hK hP hD hA hS hend ls hl
  have hown : s.vm.findClass RX4 = some m.cls := hown
  have hP : va_P D vwCl (MW cy a V) s.heap := hP
  have hD : va_D A (MW cy a V) := hD
  have hl : lv_has ls 4 [(0, .ref (a 0)), (1, .int p1), (2, .int p2), (3, .int p3)] := hl
  have hend : ∀ (H : Heap) (locs : List Loc) (pc : Nat) (ls : Array Slot) (v : Int32), v = r → narrow .int (.int v) = .int v → va_P D vwCl (MW cy a V) H → va_D A (MW cy a V) → va_S A s.heap H locs → decode cX4_part pc = .ok (.ireturn, 1) → W p l e (RM 1 22) s m args below meth c H locs 0 0 Q (F0 m pc ls [.int v]) := fun H locs pc ls v h1 h3 h4 h5 h6 h7 => hend H locs pc ls v V h1 rfl h3 h4 h5 h6 h7
  obtain ⟨H, hHe⟩ : ∃ H : Heap, H = s.heap := ⟨_, rfl⟩
  obtain ⟨locs, hLe⟩ : ∃ x : List Loc, x = [] := ⟨_, rfl⟩
  have hP : va_P D vwCl (MW cy a V) H := by rw [hHe]; exact hP
  have hS : va_S A s.heap H locs := by rw [hHe, hLe]; exact hS
  have goal0 : W p l e (RM 1 22) s m args below meth c H locs 0 0 Q (F0 m 0 ls []) := by
    refine lv_iload_n hx hb dX4_part_0 rfl (lv_at hl 3 rfl) ?_
    refine lv_iload_n hx hb dX4_part_1 rfl (lv_at hl 1 rfl) ?_
    refine lv_iload_n hx hb dX4_part_2 rfl (lv_at hl 2 rfl) ?_
    refine lv_icmp_ne (tgt := 15) hx hb dX4_part_3 (by decide) (fun c1 => ?_) (fun c1 => ?_)
    · replace hc := ite_f c1 hc
      refine lv_aload_n hx hb dX4_part_15 rfl (lv_at hl 0 rfl) ?_
      refine lv_iload_n hx hb dX4_part_16 rfl (lv_at hl 2 rfl) ?_
      refine lv_iconst (v := 4) hx hb dX4_part_17 (by decide) ?_
      obtain ⟨x2, hc2, hc⟩ := b1_some hc
      refine gc_VI (n := 2) (q0 := 0) (ci := 4) (w' := MW cy a V) hx hb hml hown hts hK hP hD hS hA hl.1 ⟨Nat.le_refl _, Nat.le_refl _⟩ (C_X4_of l D cy a V p2 4 x2 hc2) gX4_part_X4_of rfl (by decide +kernel) rfl ⟨by decide, by decide⟩ Jn.same rfl rfl rfl (Nat.le_of_ble_eq_true rfl) dX4_part_18 (fun H locs hP hD hS => ?_)
      refine lv_aload_n hx hb dX4_part_21 rfl (lv_at hl 0 rfl) ?_
      refine lv_iload_n hx hb dX4_part_22 rfl (lv_at hl 2 rfl) ?_
      refine lv_iconst (v := 3) hx hb dX4_part_23 (by decide) ?_
      obtain ⟨x3, hc3, hc⟩ := b1_some hc
      refine gc_VI (n := 2) (q0 := 0) (ci := 4) (w' := MW cy a V) hx hb hml hown hts hK hP hD hS hA hl.1 ⟨Nat.le_refl _, Nat.le_refl _⟩ (C_X4_of l D cy a V p2 3 x3 hc3) gX4_part_X4_of rfl (by decide +kernel) rfl ⟨by decide, by decide⟩ Jn.same rfl rfl rfl (Nat.le_of_ble_eq_true rfl) dX4_part_24 (fun H locs hP hD hS => ?_)
      obtain ⟨x4, hc4, hc⟩ := b1_some hc
      refine gc_SI (n := 2) (w' := MW cy a V) hx hb hml hown hts hK hP hD hS hA hl.1 ⟨Nat.le_refl _, Nat.le_refl _⟩ (C_X4_least l D cy x2 x3 x4 hc4) gX4_part_X4_least rfl (by decide +kernel) rfl ⟨by decide, by decide⟩ Jn.none rfl (Nat.le_of_ble_eq_true rfl) dX4_part_27 (fun H locs hP hD hS => ?_)
      obtain ⟨x5, hc5, hc⟩ := b1_some hc
      refine gc_SI (n := 2) (w' := MW cy a V) hx hb hml hown hts hK hP hD hS hA hl.1 ⟨Nat.le_refl _, Nat.le_refl _⟩ (C_X4_least l D cy p3 x4 x5 hc5) gX4_part_X4_least rfl (by decide +kernel) rfl ⟨by decide, by decide⟩ Jn.none rfl (Nat.le_of_ble_eq_true rfl) dX4_part_30 (fun H locs hP hD hS => ?_)
      exact hend H locs _ _ _ (some_one hc) rfl hP hD hS dX4_part_33
    · replace hc := ite_t c1 hc
      refine lv_aload_n hx hb dX4_part_6 rfl (lv_at hl 0 rfl) ?_
      refine lv_iload_n hx hb dX4_part_7 rfl (lv_at hl 2 rfl) ?_
      refine lv_iconst (v := 4) hx hb dX4_part_8 (by decide) ?_
      obtain ⟨x6, hc6, hc⟩ := b1_some hc
      refine gc_VI (n := 2) (q0 := 0) (ci := 4) (w' := MW cy a V) hx hb hml hown hts hK hP hD hS hA hl.1 ⟨Nat.le_refl _, Nat.le_refl _⟩ (C_X4_of l D cy a V p2 4 x6 hc6) gX4_part_X4_of rfl (by decide +kernel) rfl ⟨by decide, by decide⟩ Jn.same rfl rfl rfl (Nat.le_of_ble_eq_true rfl) dX4_part_9 (fun H locs hP hD hS => ?_)
      refine lv_goto (tgt := 30) hx hb dX4_part_12 (by decide) ?_
      obtain ⟨x7, hc7, hc⟩ := b1_some hc
      refine gc_SI (n := 2) (w' := MW cy a V) hx hb hml hown hts hK hP hD hS hA hl.1 ⟨Nat.le_refl _, Nat.le_refl _⟩ (C_X4_least l D cy p3 x6 x7 hc7) gX4_part_X4_least rfl (by decide +kernel) rfl ⟨by decide, by decide⟩ Jn.none rfl (Nat.le_of_ble_eq_true rfl) dX4_part_30 (fun H locs hP hD hS => ?_)
      exact hend H locs _ _ _ (some_one hc) rfl hP hD hS dX4_part_33
  rw [hHe, hLe] at goal0
  exact goal0
set_option maxHeartbeats 4000000 in
set_option maxRecDepth 100000 in
theorem C_X4_isPlace (l : Launch) (D : va_G) (cy : Nat → ClassId) (a : Nat → Nat) (V : FV) (p1 : Int32) (r : Int32) (hc : f_X4_isPlace V p1 = some r) : ConI l yX4_isPlace wsX4_isPlace 1 22 D cy (MW cy a) [.ref (a 0), .int p1] V V r := by
  refine bodyI (cc := cX4_isPlace) (maxL := 2) (ty := .boolean) (by decide +kernel) rfl (Nat.le_of_ble_eq_true rfl) ?_
  intro p e s m args below meth c A Q hx hb hml hts hown hK hP hD hA hS hend ls hl
  have hown : s.vm.findClass RX4 = some m.cls := hown
  have hP : va_P D vwCl (MW cy a V) s.heap := hP
  have hD : va_D A (MW cy a V) := hD
  have hl : lv_has ls 2 [(0, .ref (a 0)), (1, .int p1)] := hl
  have hend : ∀ (H : Heap) (locs : List Loc) (pc : Nat) (ls : Array Slot) (v : Int32), v = r → narrow .boolean (.int v) = .int v → va_P D vwCl (MW cy a V) H → va_D A (MW cy a V) → va_S A s.heap H locs → decode cX4_isPlace pc = .ok (.ireturn, 1) → W p l e (RM 1 22) s m args below meth c H locs 0 0 Q (F0 m pc ls [.int v]) := fun H locs pc ls v h1 h3 h4 h5 h6 h7 => hend H locs pc ls v V h1 rfl h3 h4 h5 h6 h7
  have fl_7 := hts (.fieldLink RX4 7 "NoonWellsModel" "now" "[I") (by decide +kernel)
  have inw_X4 := (by decide +kernel : ∀ w ∈ u_ws RX4 TX4 12, w ∈ wsX4_isPlace)
  obtain ⟨H, hHe⟩ : ∃ H : Heap, H = s.heap := ⟨_, rfl⟩
  obtain ⟨locs, hLe⟩ : ∃ x : List Loc, x = [] := ⟨_, rfl⟩
  have hP : va_P D vwCl (MW cy a V) H := by rw [hHe]; exact hP
  have hS : va_S A s.heap H locs := by rw [hHe, hLe]; exact hS
  have goal0 : W p l e (RM 1 22) s m args below meth c H locs 0 0 Q (F0 m 0 ls []) := by
    refine lv_iload_n hx hb dX4_isPlace_0 rfl (lv_at hl 1 rfl) ?_
    refine lv_iconst (v := 1) hx hb dX4_isPlace_1 (by decide) ?_
    refine lv_aload_n hx hb dX4_isPlace_2 rfl (lv_at hl 0 rfl) ?_
    refine va_get (ci := 4) (v := .ref (a 1)) (C := RX4) (T := TX4) (N := 12) hx hb hts inw_X4 hown hK.1 hP 0 rfl rfl 0 (by decide) fl_7 (fun _ h9 => h9) rfl dX4_isPlace_3 ?_
    refine lv_iconst (v := 5) hx hb dX4_isPlace_6 (by decide) ?_
    refine g_iald (x := V 1 5) hx hb hK hP 1 rfl (vp_lit (by decide)) rfl dX4_isPlace_7 ?_
    obtain ⟨x1, hc1, hc⟩ := b1_some hc
    refine gc_SI (n := 3) (w' := MW cy a V) hx hb hml hown hts hK hP hD hS hA hl.1 ⟨Nat.le_refl _, Nat.le_refl _⟩ (C_X4_in l D cy p1 1 (V 1 5) x1 hc1) gX4_isPlace_X4_in rfl (by decide +kernel) rfl ⟨by decide, by decide⟩ Jn.none rfl (Nat.le_of_ble_eq_true rfl) dX4_isPlace_8 (fun H locs hP hD hS => ?_)
    obtain ⟨hz2, hc⟩ := bz_some hc
    exact hend H locs _ _ _ (some_one hc) (by rcases hz2 with h9 | h9 <;> rw [h9] <;> rfl) hP hD hS dX4_isPlace_11
  rw [hHe, hLe] at goal0
  exact goal0
