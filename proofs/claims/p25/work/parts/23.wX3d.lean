set_option maxHeartbeats 4000000 in
set_option maxRecDepth 100000 in
theorem C_X3_play (l : Launch) (D : va_G) (cy : Nat → ClassId) (aN : Nat → Nat → Nat) (v1 : FV) (v2 : FV) (G : (Nat → FV)) (v3 : FV) (r : Int32) (v1' : FV) (v2' : FV) (G' : (Nat → FV)) (v3' : FV) (hc : f_X3_play v1 v2 G v3 = some (r, (v1', v2', G', v3'))) : ConI l yX3_play wsX3_play 7 165 D cy (fun (u : FV × FV × (Nat → FV) × FV) => NW cy aN u.1 u.2.1 u.2.2.1 u.2.2.2) [.ref (aN 0 0)] ((v1, v2, G, v3)) ((v1', v2', G', v3')) r := by
  refine bodyI (cc := cX3_play) (maxL := 1) (ty := .int) (by decide +kernel) rfl (Nat.le_of_ble_eq_true rfl) ?_
  intro p e s m args below meth c A Q hx hb hml hts hown hK hP hD hA hS hend ls hl
  have hown : s.vm.findClass RX3 = some m.cls := hown
  have hP : va_P D vwCl (NW cy aN v1 v2 G v3) s.heap := hP
  have hD : va_D A (NW cy aN v1 v2 G v3) := hD
  have hl : lv_has ls 1 [(0, .ref (aN 0 0))] := hl
  have hend : ∀ (H : Heap) (locs : List Loc) (pc : Nat) (ls : Array Slot) (v : Int32) (v1 : FV) (v2 : FV) (G : (Nat → FV)) (v3 : FV), v = r → (v1, v2, G, v3) = (v1', v2', G', v3') → narrow .int (.int v) = .int v → va_P D vwCl (NW cy aN v1 v2 G v3) H → va_D A (NW cy aN v1 v2 G v3) → va_S A s.heap H locs → decode cX3_play pc = .ok (.ireturn, 1) → W p l e (RM 7 165) s m args below meth c H locs 0 0 Q (F0 m pc ls [.int v]) := fun H locs pc ls v v1 v2 G v3 h1 h2 h3 h4 h5 h6 h7 => hend H locs pc ls v ((v1, v2, G, v3)) h1 h2 h3 h4 h5 h6 h7
  have fl_22 := hts (.fieldLink RX3 22 "NoonWells" "history" "LNoonWells$History;") (by decide +kernel)
  have inw_X3 := (by decide +kernel : ∀ w ∈ u_ws RX3 TX3 4, w ∈ wsX3_play)
  have fl_12 := hts (.fieldLink RX3 12 "NoonWells" "now" "LNoonWells$Field;") (by decide +kernel)
  have fl_16 := hts (.fieldLink RX3 16 "NoonWells" "trial" "LNoonWells$Field;") (by decide +kernel)
  have fl_29 := hts (.fieldLink RX3 29 "NoonWells" "script" "LNoonWells$Script;") (by decide +kernel)
  have inw_X2 := (by decide +kernel : ∀ w ∈ u_ws RX2 TX2 7, w ∈ wsX3_play)
  obtain ⟨H, hHe⟩ : ∃ H : Heap, H = s.heap := ⟨_, rfl⟩
  obtain ⟨locs, hLe⟩ : ∃ x : List Loc, x = [] := ⟨_, rfl⟩
  have hP : va_P D vwCl (NW cy aN v1 v2 G v3) H := by rw [hHe]; exact hP
  have hS : va_S A s.heap H locs := by rw [hHe, hLe]; exact hS
  have goal0 : W p l e (RM 7 165) s m args below meth c H locs 0 0 Q (F0 m 0 ls []) := by
    refine lv_aload_n hx hb dX3_play_0 rfl (lv_at hl 0 rfl) ?_
    refine va_get (ci := 3) (v := .ref (aN 4 0)) (C := RX3) (T := TX3) (N := 4) hx hb hts inw_X3 hown hK.1 hP 0 rfl rfl 2 (by decide) fl_22 (fun _ h9 => h9) rfl dX3_play_1 ?_
    refine lv_aload_n hx hb dX3_play_4 rfl (lv_at hl 0 rfl) ?_
    refine va_get (ci := 3) (v := .ref (aN 1 0)) (C := RX3) (T := TX3) (N := 4) hx hb hts inw_X3 hown hK.1 hP 0 rfl rfl 0 (by decide) fl_12 (fun _ h9 => h9) rfl dX3_play_5 ?_
    obtain ⟨t1, hc1, hc⟩ := b1_some hc
    refine gc_VV (n := 1) (q0 := 0) (ci := 1) (w' := NW cy aN t1.2 v2 t1.1 v3) hx hb hml hown hts hK hP hD hS hA hl.1 ⟨Nat.le_refl _, Nat.le_refl _⟩ (C_X1_note l D cy ((fun i => aN (4 + i))) (aN 1) G v1 t1.1 t1.2 hc1) gX3_play_X1_note rfl (by decide +kernel) rfl ⟨by decide, by decide⟩ (Jn.perm NW_hn NW_hn) rfl rfl rfl (Nat.le_of_ble_eq_true rfl) dX3_play_8 (fun H locs hP hD hS => ?_)
    refine lv_aload_n hx hb dX3_play_11 rfl (lv_at hl 0 rfl) ?_
    refine va_get (ci := 3) (v := .ref (aN 2 0)) (C := RX3) (T := TX3) (N := 4) hx hb hts inw_X3 hown hK.1 hP 0 rfl rfl 1 (by decide) fl_16 (fun _ h9 => h9) rfl dX3_play_12 ?_
    refine lv_aload_n hx hb dX3_play_15 rfl (lv_at hl 0 rfl) ?_
    refine va_get (ci := 3) (v := .ref (aN 1 0)) (C := RX3) (T := TX3) (N := 4) hx hb hts inw_X3 hown hK.1 hP 0 rfl rfl 0 (by decide) fl_12 (fun _ h9 => h9) rfl dX3_play_16 ?_
    obtain ⟨v22, hc2, hc⟩ := b1_some hc
    refine gc_VV (n := 1) (q0 := 0) (ci := 0) (w' := NW cy aN t1.2 v22 t1.1 v3) hx hb hml hown hts hK hP hD hS hA hl.1 ⟨Nat.le_refl _, Nat.le_refl _⟩ (C_X0_copyFrom l D cy (aN 2) (aN 1) t1.2 v2 v22 hc2) gX3_play_X0_copyFrom rfl (by decide +kernel) rfl ⟨by decide, by decide⟩ (Jn.perm NW_tn NW_tn) rfl rfl rfl (Nat.le_of_ble_eq_true rfl) dX3_play_19 (fun H locs hP hD hS => ?_)
    refine lv_aload_n hx hb dX3_play_22 rfl (lv_at hl 0 rfl) ?_
    refine va_get (ci := 3) (v := .ref (aN 3 0)) (C := RX3) (T := TX3) (N := 4) hx hb hts inw_X3 hown hK.1 hP 0 rfl rfl 3 (by decide) fl_29 (fun _ h9 => h9) rfl dX3_play_23 ?_
    refine lv_aload_n hx hb dX3_play_26 rfl (lv_at hl 0 rfl) ?_
    refine va_get (ci := 3) (v := .ref (aN 2 0)) (C := RX3) (T := TX3) (N := 4) hx hb hts inw_X3 hown hK.1 hP 0 rfl rfl 1 (by decide) fl_16 (fun _ h9 => h9) rfl dX3_play_27 ?_
    obtain ⟨t3, hc3, hc⟩ := b1_some hc
    refine gc_VV (n := 1) (q0 := 25) (ci := 2) (w' := NW cy aN t1.2 t3.1 t1.1 t3.2) hx hb hml hown hts hK hP hD hS hA hl.1 ⟨Nat.le_refl _, Nat.le_refl _⟩ (C_X2_runOn l D cy (aN 3) (aN 2) v22 v3 t3.1 t3.2 hc3) gX3_play_X2_runOn rfl (by decide +kernel) rfl ⟨by decide, by decide⟩ (Jn.perm NW_ts NW_ts) rfl rfl rfl (Nat.le_of_ble_eq_true rfl) dX3_play_30 (fun H locs hP hD hS => ?_)
    refine lv_aload_n hx hb dX3_play_33 rfl (lv_at hl 0 rfl) ?_
    refine va_get (ci := 3) (v := .ref (aN 3 0)) (C := RX3) (T := TX3) (N := 4) hx hb hts inw_X3 hown hK.1 hP 0 rfl rfl 3 (by decide) fl_29 (fun _ h9 => h9) rfl dX3_play_34 ?_
    refine va_getN (ci := 2) (v := .int (t3.2 0 4)) (C := RX2) (T := TX2) (N := 7) hx hb hts inw_X2 hown hK.1 hP 51 rfl rfl 6 (by decide) (va_Nw.use rfl (hK.2 (.fieldLinkNest "NoonWells" 150 "NoonWells$Script" "reason" "I" "NoonWells") (by decide +kernel))) (fun _ h9 => h9) rfl dX3_play_37 ?_
    refine lv_if_eq (tgt := 46) hx hb dX3_play_40 (by decide) (fun c4 => ?_) (fun c4 => ?_)
    · replace hc := ite_t c4 hc
      refine lv_aload_n hx hb dX3_play_46 rfl (lv_at hl 0 rfl) ?_
      refine va_get (ci := 3) (v := .ref (aN 1 0)) (C := RX3) (T := TX3) (N := 4) hx hb hts inw_X3 hown hK.1 hP 0 rfl rfl 0 (by decide) fl_12 (fun _ h9 => h9) rfl dX3_play_47 ?_
      refine lv_aload_n hx hb dX3_play_50 rfl (lv_at hl 0 rfl) ?_
      refine va_get (ci := 3) (v := .ref (aN 2 0)) (C := RX3) (T := TX3) (N := 4) hx hb hts inw_X3 hown hK.1 hP 0 rfl rfl 1 (by decide) fl_16 (fun _ h9 => h9) rfl dX3_play_51 ?_
      obtain ⟨v15, hc5, hc⟩ := b1_some hc
      refine gc_VV (n := 1) (q0 := 0) (ci := 0) (w' := NW cy aN v15 t3.1 t1.1 t3.2) hx hb hml hown hts hK hP hD hS hA hl.1 ⟨Nat.le_refl _, Nat.le_refl _⟩ (C_X0_copyFrom l D cy (aN 1) (aN 2) t3.1 t1.2 v15 hc5) gX3_play_X0_copyFrom rfl (by decide +kernel) rfl ⟨by decide, by decide⟩ (Jn.perm NW_nt NW_nt) rfl rfl rfl (Nat.le_of_ble_eq_true rfl) dX3_play_54 (fun H locs hP hD hS => ?_)
      refine lv_aload_n hx hb dX3_play_57 rfl (lv_at hl 0 rfl) ?_
      refine lv_aload_n hx hb dX3_play_58 rfl (lv_at hl 0 rfl) ?_
      refine va_get (ci := 3) (v := .ref (aN 3 0)) (C := RX3) (T := TX3) (N := 4) hx hb hts inw_X3 hown hK.1 hP 0 rfl rfl 3 (by decide) fl_29 (fun _ h9 => h9) rfl dX3_play_59 ?_
      refine va_getN (ci := 2) (v := .int (t3.2 0 2)) (C := RX2) (T := TX2) (N := 7) hx hb hts inw_X2 hown hK.1 hP 51 rfl rfl 4 (by decide) (va_Nw.use rfl (hK.2 (.fieldLinkNest "NoonWells" 156 "NoonWells$Script" "orders" "I" "NoonWells") (by decide +kernel))) (fun _ h9 => h9) rfl dX3_play_62 ?_
      obtain ⟨x6, t6, hc6, hc⟩ := b2_some hc
      refine gc_VI (n := 1) (q0 := 0) (ci := 3) (w' := NW cy aN t6.1 t6.2.1 t6.2.2.1 t6.2.2.2) hx hb hml hown hts hK hP hD hS hA hl.1 ⟨Nat.le_refl _, Nat.le_refl _⟩ (C_X3_keepIfDone l D cy aN v15 t3.1 t1.1 t3.2 (t3.2 0 2) x6 t6.1 t6.2.1 t6.2.2.1 t6.2.2.2 hc6) gX3_play_X3_keepIfDone rfl (by decide +kernel) rfl ⟨by decide, by decide⟩ Jn.same rfl rfl rfl (Nat.le_of_ble_eq_true rfl) dX3_play_65 (fun H locs hP hD hS => ?_)
      exact hend H locs _ _ _ _ _ _ _ (some_fst hc) (some_snd hc) rfl hP hD hS dX3_play_68
    · replace hc := ite_f c4 hc
      refine lv_bipush (v := (-2)) hx hb dX3_play_43 (by decide +kernel) ?_
      exact hend H locs _ _ _ _ _ _ _ (some_fst hc) (some_snd hc) rfl hP hD hS dX3_play_45
  rw [hHe, hLe] at goal0
  exact goal0
