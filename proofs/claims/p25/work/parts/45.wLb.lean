set_option maxHeartbeats 40000000 in
set_option maxRecDepth 100000 in
theorem C_L_refused (l : Launch) (D : va_G) (cy : Nat → ClassId) (aN : Nat → Nat → Nat) (v1 : FV) (v2 : FV) (G : (Nat → FV)) (v3 : FV) (r : Int32) (v1' : FV) (v2' : FV) (G' : (Nat → FV)) (v3' : FV) (hc : f_L_refused v1 v2 G v3 = some (r, (v1', v2', G', v3'))) : ConI l yL_refused wsL_refused 8 189 D cy (fun (u : FV × FV × (Nat → FV) × FV) => NW cy aN u.1 u.2.1 u.2.2.1 u.2.2.2) [.ref (aN 0 0)] ((v1, v2, G, v3)) ((v1', v2', G', v3')) r := by
  refine bodyI (cc := cL_refused) (maxL := 8) (ty := .boolean) (by decide +kernel) rfl (Nat.le_of_ble_eq_true rfl) ?_
  intro p e s m args below meth c A Q hx hb hml hts hown hK hP hD hA hS hend ls hl
  have hown : s.vm.findClass RL = some m.cls := hown
  have hP : va_P D vwCl (NW cy aN v1 v2 G v3) s.heap := hP
  have hD : va_D A (NW cy aN v1 v2 G v3) := hD
  have hl : lv_has ls 8 [(0, .ref (aN 0 0))] := hl
  have hend : ∀ (H : Heap) (locs : List Loc) (pc : Nat) (ls : Array Slot) (v : Int32) (v1 : FV) (v2 : FV) (G : (Nat → FV)) (v3 : FV), v = r → (v1, v2, G, v3) = (v1', v2', G', v3') → narrow .boolean (.int v) = .int v → va_P D vwCl (NW cy aN v1 v2 G v3) H → va_D A (NW cy aN v1 v2 G v3) → va_S A s.heap H locs → decode cL_refused pc = .ok (.ireturn, 1) → W p l e (RM 8 189) s m args below meth c H locs 0 0 Q (F0 m pc ls [.int v]) := fun H locs pc ls v v1 v2 G v3 h1 h2 h3 h4 h5 h6 h7 => hend H locs pc ls v ((v1, v2, G, v3)) h1 h2 h3 h4 h5 h6 h7
  have J644 : ∀ (y1 : Int64) (y4 : Int32) (v1 : FV) (v2 : FV) (G : (Nat → FV)) (v3 : FV) (H : Heap) (locs : List Loc) (ls : Array Slot), f_L_refused_J644 y1 y4 v1 v2 G v3 = some (r, (v1', v2', G', v3')) → va_P D vwCl (NW cy aN v1 v2 G v3) H → va_D A (NW cy aN v1 v2 G v3) → va_S A s.heap H locs → lv_has ls 8 [(0, .ref (aN 0 0)), (1, .long y1), (4, .int y4)] → W p l e (RM 8 189) s m args below meth c H locs 0 0 Q (F0 m 644 ls []) := by
    intro y1 y4 v1 v2 G v3 H locs ls hc hP hD hS hl
    refine lv_aload_n hx hb dL_refused_644 rfl (lv_at hl 0 rfl) ?_
    refine lv_bipush (v := 13) hx hb dL_refused_645 (by decide +kernel) ?_
    obtain ⟨x74, hc74, hc⟩ := b1_some hc
    refine gc_VI (n := 1) (q0 := 0) (ci := 3) (w' := NW cy aN v1 v2 G v3) hx hb hml hown hts hK hP hD hS hA hl.1 ⟨Nat.le_refl _, Nat.le_refl _⟩ (C_X3_count l D cy aN v1 v2 G v3 13 x74 hc74) gL_refused_X3_count rfl (by decide +kernel) rfl ⟨by decide, by decide⟩ Jn.same rfl rfl rfl (Nat.le_of_ble_eq_true rfl) dL_refused_647 (fun H locs hP hD hS => ?_)
    refine lv_iload hx hb dL_refused_650 (lv_at hl 2 rfl) ?_
    refine lv_icmp_ne (tgt := 668) hx hb dL_refused_652 (by decide) (fun c75 => ?_) (fun c75 => ?_)
    · replace hc := ite_f c75 hc
      cases hc
    · replace hc := ite_t c75 hc
      refine lv_aload_n hx hb dL_refused_655 rfl (lv_at hl 0 rfl) ?_
      obtain ⟨x76, hc76, hc⟩ := b1_some hc
      refine gc_SL (n := 1) (w' := NW cy aN v1 v2 G v3) hx hb hml hown hts hK hP hD hS hA hl.1 ⟨Nat.le_refl _, Nat.le_refl _⟩ (C_L_print l D cy aN v1 v2 G v3 x76 hc76) gL_refused_L_print rfl (by decide +kernel) rfl ⟨by decide, by decide⟩ Jn.same rfl (Nat.le_of_ble_eq_true rfl) dL_refused_656 (fun H locs hP hD hS => ?_)
      refine lv_lload_n hx hb dL_refused_659 rfl (lv_at hl 1 rfl) ?_
      refine W.lcmp hx hb dL_refused_660 ?_
      by_cases c77 : x76 = y1
      · replace hc := ite_t c77 hc
        rw [show lg_cmp x76 y1 = 0 by rw [c77]; simp [lg_cmp]]
        refine lv_if_ne (tgt := 668) hx hb dL_refused_661 (by decide) (fun c9 => absurd rfl c9) (fun _ => ?_)
        refine lv_iconst (v := 1) hx hb dL_refused_664 (by decide) ?_
        refine lv_goto (tgt := 669) hx hb dL_refused_665 (by decide) ?_
        exact hend H locs _ _ _ _ _ _ _ (some_fst hc) (some_snd hc) rfl hP hD hS dL_refused_669
      · replace hc := ite_f c77 hc
        cases hc
  have J619 : ∀ (y1 : Int64) (y3 : Int32) (y4 : Int32) (v1 : FV) (v2 : FV) (G : (Nat → FV)) (v3 : FV) (H : Heap) (locs : List Loc) (ls : Array Slot), f_L_refused_J619 y1 y3 y4 v1 v2 G v3 = some (r, (v1', v2', G', v3')) → va_P D vwCl (NW cy aN v1 v2 G v3) H → va_D A (NW cy aN v1 v2 G v3) → va_S A s.heap H locs → lv_has ls 8 [(0, .ref (aN 0 0)), (1, .long y1), (3, .int y3), (4, .int y4), (6, .int 1)] → W p l e (RM 8 189) s m args below meth c H locs 0 0 Q (F0 m 619 ls []) := by
    intro y1 y3 y4 v1 v2 G v3 H locs ls hc hP hD hS hl
    refine lv_iload hx hb dL_refused_619 (lv_at hl 4 rfl) ?_
    refine lv_if_eq (tgt := 668) hx hb dL_refused_621 (by decide) (fun c9 => absurd c9 (by decide)) (fun _ => ?_)
    refine lv_iload_n hx hb dL_refused_624 rfl (lv_at hl 2 rfl) ?_
    refine lv_bipush (v := 12) hx hb dL_refused_625 (by decide +kernel) ?_
    refine lv_icmp_lt (tgt := 644) hx hb dL_refused_627 (by decide) (fun c73 => ?_) (fun c73 => ?_)
    · replace hc := ite_t c73 hc
      exact J644 y1 y4 v1 v2 G v3 H locs ls hc hP hD hS (lv_sub hl [0, 1, 3] rfl)
    · replace hc := ite_f c73 hc
      refine lv_aload_n hx hb dL_refused_630 rfl (lv_at hl 0 rfl) ?_
      refine lv_iconst (v := 0) hx hb dL_refused_631 (by decide) ?_
      refine lv_bipush (v := 10) hx hb dL_refused_632 (by decide +kernel) ?_
      refine lv_iconst (v := 1) hx hb dL_refused_634 (by decide) ?_
      refine lv_iconst (v := 1) hx hb dL_refused_635 (by decide) ?_
      obtain ⟨x78, t78, hc78, hc⟩ := b2_some hc
      refine gc_VI (n := 4) (q0 := 0) (ci := 3) (w' := NW cy aN t78.1 t78.2.1 t78.2.2.1 t78.2.2.2) hx hb hml hown hts hK hP hD hS hA hl.1 ⟨Nat.le_refl _, Nat.le_refl _⟩ (C_X3_well l D cy aN v1 v2 G v3 0 10 1 1 x78 t78.1 t78.2.1 t78.2.2.1 t78.2.2.2 hc78) gL_refused_X3_well rfl (by decide +kernel) rfl ⟨by decide, by decide⟩ Jn.same rfl rfl rfl (Nat.le_of_ble_eq_true rfl) dL_refused_636 (fun H locs hP hD hS => ?_)
      refine lv_bipush (v := (-3)) hx hb dL_refused_639 (by decide +kernel) ?_
      refine lv_icmp_ne (tgt := 668) hx hb dL_refused_641 (by decide) (fun c79 => ?_) (fun c79 => ?_)
      · replace hc := ite_f c79 hc
        cases hc
      · replace hc := ite_t c79 hc
        exact J644 y1 y4 t78.1 t78.2.1 t78.2.2.1 t78.2.2.2 H locs ls hc hP hD hS (lv_sub hl [0, 1, 3] rfl)
  have J612 : ∀ (y1 : Int64) (y3 : Int32) (y4 : Int32) (v1 : FV) (v2 : FV) (G : (Nat → FV)) (v3 : FV) (H : Heap) (locs : List Loc) (ls : Array Slot), f_L_refused_J612 y1 y3 y4 v1 v2 G v3 = some (r, (v1', v2', G', v3')) → va_P D vwCl (NW cy aN v1 v2 G v3) H → va_D A (NW cy aN v1 v2 G v3) → va_S A s.heap H locs → lv_has ls 8 [(0, .ref (aN 0 0)), (1, .long y1), (3, .int y3), (4, .int y4)] → W p l e (RM 8 189) s m args below meth c H locs 0 0 Q (F0 m 612 ls []) := by
    intro y1 y3 y4 v1 v2 G v3 H locs ls hc hP hD hS hl
    refine lv_iconst (v := 1) hx hb dL_refused_612 (by decide) ?_
    refine lv_goto (tgt := 617) hx hb dL_refused_613 (by decide) ?_
    refine lv_istore (lv' := [(6, .int 1), (0, .ref (aN 0 0)), (1, .long y1), (3, .int y3), (4, .int y4)]) hx hb dL_refused_617 hl (by decide) rfl (fun ls hl => ?_)
    exact J619 y1 y3 y4 v1 v2 G v3 H locs ls hc hP hD hS (lv_sub hl [1, 2, 3, 4, 0] rfl)
  have J414 : ∀ (y1 : Int64) (y3 : Int32) (y4 : Int32) (v1 : FV) (v2 : FV) (G : (Nat → FV)) (v3 : FV) (H : Heap) (locs : List Loc) (ls : Array Slot), f_L_refused_J414 y1 y3 y4 v1 v2 G v3 = some (r, (v1', v2', G', v3')) → va_P D vwCl (NW cy aN v1 v2 G v3) H → va_D A (NW cy aN v1 v2 G v3) → va_S A s.heap H locs → lv_has ls 8 [(0, .ref (aN 0 0)), (1, .long y1), (3, .int y3), (4, .int y4), (6, .int 1)] → W p l e (RM 8 189) s m args below meth c H locs 0 0 Q (F0 m 414 ls []) := by
    intro y1 y3 y4 v1 v2 G v3 H locs ls hc hP hD hS hl
    refine lv_iload_n hx hb dL_refused_414 rfl (lv_at hl 2 rfl) ?_
    refine lv_if_le (tgt := 619) hx hb dL_refused_415 (by decide) (fun c72 => ?_) (fun c72 => ?_)
    · replace hc := ite_t c72 hc
      exact J619 y1 y3 y4 v1 v2 G v3 H locs ls hc hP hD hS (lv_sub hl [0, 1, 2, 3, 4] rfl)
    · replace hc := ite_f c72 hc
      refine lv_aload_n hx hb dL_refused_418 rfl (lv_at hl 0 rfl) ?_
      refine lv_iconst (v := 0) hx hb dL_refused_419 (by decide) ?_
      obtain ⟨x80, t80, hc80, hc⟩ := b2_some hc
      refine gc_VI (n := 1) (q0 := 0) (ci := 3) (w' := NW cy aN t80.1 t80.2.1 t80.2.2.1 t80.2.2.2) hx hb hml hown hts hK hP hD hS hA hl.1 ⟨Nat.le_refl _, Nat.le_refl _⟩ (C_X3_able l D cy aN v1 v2 G v3 0 x80 t80.1 t80.2.1 t80.2.2.1 t80.2.2.2 hc80) gL_refused_X3_able rfl (by decide +kernel) rfl ⟨by decide, by decide⟩ Jn.same rfl rfl rfl (Nat.le_of_ble_eq_true rfl) dL_refused_420 (fun H locs hP hD hS => ?_)
      refine lv_istore (lv' := [(7, .int x80), (0, .ref (aN 0 0)), (1, .long y1), (3, .int y3), (4, .int y4), (6, .int 1)]) hx hb dL_refused_423 hl (by decide) rfl (fun ls hl => ?_)
      refine lv_iload hx hb dL_refused_425 (lv_at hl 5 rfl) ?_
      refine lv_if_eq (tgt := 616) hx hb dL_refused_427 (by decide) (fun c9 => absurd c9 (by decide)) (fun _ => ?_)
      refine lv_aload_n hx hb dL_refused_430 rfl (lv_at hl 1 rfl) ?_
      refine lv_iconst (v := 0) hx hb dL_refused_431 (by decide) ?_
      refine lv_iconst (v := 0) hx hb dL_refused_432 (by decide) ?_
      obtain ⟨x81, hc81, hc⟩ := b1_some hc
      refine gc_VI (n := 2) (q0 := 0) (ci := 3) (w' := NW cy aN t80.1 t80.2.1 t80.2.2.1 t80.2.2.2) hx hb hml hown hts hK hP hD hS hA hl.1 ⟨Nat.le_refl _, Nat.le_refl _⟩ (C_X3_wellOf l D cy aN t80.1 t80.2.1 t80.2.2.1 t80.2.2.2 0 0 x81 hc81) gL_refused_X3_wellOf rfl (by decide +kernel) rfl ⟨by decide, by decide⟩ Jn.same rfl rfl rfl (Nat.le_of_ble_eq_true rfl) dL_refused_433 (fun H locs hP hD hS => ?_)
      refine lv_bipush (v := (-4)) hx hb dL_refused_436 (by decide +kernel) ?_
      refine lv_icmp_ne (tgt := 616) hx hb dL_refused_438 (by decide) (fun c82 => ?_) (fun c82 => ?_)
      · replace hc := ite_f c82 hc
        cases hc
      · replace hc := ite_t c82 hc
        refine lv_aload_n hx hb dL_refused_441 rfl (lv_at hl 1 rfl) ?_
        refine lv_iconst (v := 0) hx hb dL_refused_442 (by decide) ?_
        refine lv_bipush (v := 14) hx hb dL_refused_443 (by decide +kernel) ?_
        obtain ⟨x83, hc83, hc⟩ := b1_some hc
        refine gc_VI (n := 2) (q0 := 0) (ci := 3) (w' := NW cy aN t80.1 t80.2.1 t80.2.2.1 t80.2.2.2) hx hb hml hown hts hK hP hD hS hA hl.1 ⟨Nat.le_refl _, Nat.le_refl _⟩ (C_X3_wellOf l D cy aN t80.1 t80.2.1 t80.2.2.1 t80.2.2.2 0 14 x83 hc83) gL_refused_X3_wellOf rfl (by decide +kernel) rfl ⟨by decide, by decide⟩ Jn.same rfl rfl rfl (Nat.le_of_ble_eq_true rfl) dL_refused_445 (fun H locs hP hD hS => ?_)
        refine lv_iconst (v := (-1)) hx hb dL_refused_448 (by decide) ?_
        refine lv_icmp_ne (tgt := 616) hx hb dL_refused_449 (by decide) (fun c84 => ?_) (fun c84 => ?_)
        · replace hc := ite_f c84 hc
          cases hc
        · replace hc := ite_t c84 hc
          refine lv_aload_n hx hb dL_refused_452 rfl (lv_at hl 1 rfl) ?_
          refine lv_iconst (v := 0) hx hb dL_refused_453 (by decide) ?_
          refine lv_iconst (v := 0) hx hb dL_refused_454 (by decide) ?_
          obtain ⟨x85, hc85, hc⟩ := b1_some hc
          refine gc_VI (n := 2) (q0 := 0) (ci := 3) (w' := NW cy aN t80.1 t80.2.1 t80.2.2.1 t80.2.2.2) hx hb hml hown hts hK hP hD hS hA hl.1 ⟨Nat.le_refl _, Nat.le_refl _⟩ (C_X3_aboveAt l D cy aN t80.1 t80.2.1 t80.2.2.1 t80.2.2.2 0 0 x85 hc85) gL_refused_X3_aboveAt rfl (by decide +kernel) rfl ⟨by decide, by decide⟩ Jn.same rfl rfl rfl (Nat.le_of_ble_eq_true rfl) dL_refused_455 (fun H locs hP hD hS => ?_)
          refine lv_bipush (v := (-4)) hx hb dL_refused_458 (by decide +kernel) ?_
          refine lv_icmp_ne (tgt := 616) hx hb dL_refused_460 (by decide) (fun c86 => ?_) (fun c86 => ?_)
          · replace hc := ite_f c86 hc
            cases hc
          · replace hc := ite_t c86 hc
            refine lv_aload_n hx hb dL_refused_463 rfl (lv_at hl 1 rfl) ?_
            refine lv_iconst (v := 0) hx hb dL_refused_464 (by decide) ?_
            refine lv_iconst (v := (-1)) hx hb dL_refused_465 (by decide) ?_
            obtain ⟨x87, hc87, hc⟩ := b1_some hc
            refine gc_VI (n := 2) (q0 := 0) (ci := 3) (w' := NW cy aN t80.1 t80.2.1 t80.2.2.1 t80.2.2.2) hx hb hml hown hts hK hP hD hS hA hl.1 ⟨Nat.le_refl _, Nat.le_refl _⟩ (C_X3_aboveAt l D cy aN t80.1 t80.2.1 t80.2.2.1 t80.2.2.2 0 ((-1)) x87 hc87) gL_refused_X3_aboveAt rfl (by decide +kernel) rfl ⟨by decide, by decide⟩ Jn.same rfl rfl rfl (Nat.le_of_ble_eq_true rfl) dL_refused_466 (fun H locs hP hD hS => ?_)
            refine lv_iconst (v := (-1)) hx hb dL_refused_469 (by decide) ?_
            refine lv_icmp_ne (tgt := 616) hx hb dL_refused_470 (by decide) (fun c88 => ?_) (fun c88 => ?_)
            · replace hc := ite_f c88 hc
              cases hc
            · replace hc := ite_t c88 hc
              refine lv_aload_n hx hb dL_refused_473 rfl (lv_at hl 1 rfl) ?_
              refine lv_iconst (v := 0) hx hb dL_refused_474 (by decide) ?_
              refine lv_aload_n hx hb dL_refused_475 rfl (lv_at hl 1 rfl) ?_
              refine lv_iconst (v := 2) hx hb dL_refused_476 (by decide) ?_
              obtain ⟨x89, hc89, hc⟩ := b1_some hc
              refine gc_VI (n := 1) (q0 := 0) (ci := 3) (w' := NW cy aN t80.1 t80.2.1 t80.2.2.1 t80.2.2.2) hx hb hml hown hts hK hP hD hS hA hl.1 ⟨Nat.le_refl _, Nat.le_refl _⟩ (C_X3_count l D cy aN t80.1 t80.2.1 t80.2.2.1 t80.2.2.2 2 x89 hc89) gL_refused_X3_count rfl (by decide +kernel) rfl ⟨by decide, by decide⟩ Jn.same rfl rfl rfl (Nat.le_of_ble_eq_true rfl) dL_refused_477 (fun H locs hP hD hS => ?_)
              refine lv_ldc (v := 60000) hx hb hown (hts (.constant RL 47 60000) (by decide +kernel)) dL_refused_480 ?_
              obtain ⟨x90, t90, hc90, hc⟩ := b2_some hc
              refine gc_VI (n := 3) (q0 := 0) (ci := 3) (w' := NW cy aN t90.1 t90.2.1 t90.2.2.1 t90.2.2.2) hx hb hml hown hts hK hP hD hS hA hl.1 ⟨Nat.le_refl _, Nat.le_refl _⟩ (C_X3_drought l D cy aN t80.1 t80.2.1 t80.2.2.1 t80.2.2.2 0 x89 60000 x90 t90.1 t90.2.1 t90.2.2.1 t90.2.2.2 hc90) gL_refused_X3_drought rfl (by decide +kernel) rfl ⟨by decide, by decide⟩ Jn.same rfl rfl rfl (Nat.le_of_ble_eq_true rfl) dL_refused_482 (fun H locs hP hD hS => ?_)
              refine lv_iconst (v := (-1)) hx hb dL_refused_485 (by decide) ?_
              refine lv_icmp_ne (tgt := 616) hx hb dL_refused_486 (by decide) (fun c91 => ?_) (fun c91 => ?_)
              · replace hc := ite_f c91 hc
                cases hc
              · replace hc := ite_t c91 hc
                refine lv_aload_n hx hb dL_refused_489 rfl (lv_at hl 1 rfl) ?_
                refine lv_iconst (v := 0) hx hb dL_refused_490 (by decide) ?_
                refine lv_aload_n hx hb dL_refused_491 rfl (lv_at hl 1 rfl) ?_
                refine lv_iconst (v := 2) hx hb dL_refused_492 (by decide) ?_
                obtain ⟨x92, hc92, hc⟩ := b1_some hc
                refine gc_VI (n := 1) (q0 := 0) (ci := 3) (w' := NW cy aN t90.1 t90.2.1 t90.2.2.1 t90.2.2.2) hx hb hml hown hts hK hP hD hS hA hl.1 ⟨Nat.le_refl _, Nat.le_refl _⟩ (C_X3_count l D cy aN t90.1 t90.2.1 t90.2.2.1 t90.2.2.2 2 x92 hc92) gL_refused_X3_count rfl (by decide +kernel) rfl ⟨by decide, by decide⟩ Jn.same rfl rfl rfl (Nat.le_of_ble_eq_true rfl) dL_refused_493 (fun H locs hP hD hS => ?_)
                refine lv_iconst (v := 2) hx hb dL_refused_496 (by decide) ?_
                refine lv_iadd hx hb dL_refused_497 ?_
                refine lv_aload_n hx hb dL_refused_498 rfl (lv_at hl 1 rfl) ?_
                refine lv_iconst (v := 2) hx hb dL_refused_499 (by decide) ?_
                obtain ⟨x93, hc93, hc⟩ := b1_some hc
                refine gc_VI (n := 1) (q0 := 0) (ci := 3) (w' := NW cy aN t90.1 t90.2.1 t90.2.2.1 t90.2.2.2) hx hb hml hown hts hK hP hD hS hA hl.1 ⟨Nat.le_refl _, Nat.le_refl _⟩ (C_X3_count l D cy aN t90.1 t90.2.1 t90.2.2.1 t90.2.2.2 2 x93 hc93) gL_refused_X3_count rfl (by decide +kernel) rfl ⟨by decide, by decide⟩ Jn.same rfl rfl rfl (Nat.le_of_ble_eq_true rfl) dL_refused_500 (fun H locs hP hD hS => ?_)
                refine lv_iconst (v := 1) hx hb dL_refused_503 (by decide) ?_
                refine lv_iadd hx hb dL_refused_504 ?_
                obtain ⟨x94, t94, hc94, hc⟩ := b2_some hc
                refine gc_VI (n := 3) (q0 := 0) (ci := 3) (w' := NW cy aN t94.1 t94.2.1 t94.2.2.1 t94.2.2.2) hx hb hml hown hts hK hP hD hS hA hl.1 ⟨Nat.le_refl _, Nat.le_refl _⟩ (C_X3_drought l D cy aN t90.1 t90.2.1 t90.2.2.1 t90.2.2.2 0 (x92 + 2) (x93 + 1) x94 t94.1 t94.2.1 t94.2.2.1 t94.2.2.2 hc94) gL_refused_X3_drought rfl (by decide +kernel) rfl ⟨by decide, by decide⟩ Jn.same rfl rfl rfl (Nat.le_of_ble_eq_true rfl) dL_refused_505 (fun H locs hP hD hS => ?_)
                refine lv_iconst (v := (-1)) hx hb dL_refused_508 (by decide) ?_
                refine lv_icmp_ne (tgt := 616) hx hb dL_refused_509 (by decide) (fun c95 => ?_) (fun c95 => ?_)
                · replace hc := ite_f c95 hc
                  cases hc
                · replace hc := ite_t c95 hc
                  refine lv_aload_n hx hb dL_refused_512 rfl (lv_at hl 1 rfl) ?_
                  refine lv_iconst (v := 0) hx hb dL_refused_513 (by decide) ?_
                  refine lv_aload_n hx hb dL_refused_514 rfl (lv_at hl 1 rfl) ?_
                  refine lv_iconst (v := 2) hx hb dL_refused_515 (by decide) ?_
                  obtain ⟨x96, hc96, hc⟩ := b1_some hc
                  refine gc_VI (n := 1) (q0 := 0) (ci := 3) (w' := NW cy aN t94.1 t94.2.1 t94.2.2.1 t94.2.2.2) hx hb hml hown hts hK hP hD hS hA hl.1 ⟨Nat.le_refl _, Nat.le_refl _⟩ (C_X3_count l D cy aN t94.1 t94.2.1 t94.2.2.1 t94.2.2.2 2 x96 hc96) gL_refused_X3_count rfl (by decide +kernel) rfl ⟨by decide, by decide⟩ Jn.same rfl rfl rfl (Nat.le_of_ble_eq_true rfl) dL_refused_516 (fun H locs hP hD hS => ?_)
                  refine lv_iconst (v := 1) hx hb dL_refused_519 (by decide) ?_
                  refine lv_iadd hx hb dL_refused_520 ?_
                  refine lv_ldc (v := 60001) hx hb hown (hts (.constant RL 88 60001) (by decide +kernel)) dL_refused_521 ?_
                  obtain ⟨x97, t97, hc97, hc⟩ := b2_some hc
                  refine gc_VI (n := 3) (q0 := 0) (ci := 3) (w' := NW cy aN t97.1 t97.2.1 t97.2.2.1 t97.2.2.2) hx hb hml hown hts hK hP hD hS hA hl.1 ⟨Nat.le_refl _, Nat.le_refl _⟩ (C_X3_drought l D cy aN t94.1 t94.2.1 t94.2.2.1 t94.2.2.2 0 (x96 + 1) 60001 x97 t97.1 t97.2.1 t97.2.2.1 t97.2.2.2 hc97) gL_refused_X3_drought rfl (by decide +kernel) rfl ⟨by decide, by decide⟩ Jn.same rfl rfl rfl (Nat.le_of_ble_eq_true rfl) dL_refused_523 (fun H locs hP hD hS => ?_)
                  refine lv_iconst (v := (-1)) hx hb dL_refused_526 (by decide) ?_
                  refine lv_icmp_ne (tgt := 616) hx hb dL_refused_527 (by decide) (fun c98 => ?_) (fun c98 => ?_)
                  · replace hc := ite_f c98 hc
                    cases hc
                  · replace hc := ite_t c98 hc
                    refine lv_aload_n hx hb dL_refused_530 rfl (lv_at hl 1 rfl) ?_
                    refine lv_iconst (v := 0) hx hb dL_refused_531 (by decide) ?_
                    refine lv_iconst (v := 0) hx hb dL_refused_532 (by decide) ?_
                    obtain ⟨x99, t99, hc99, hc⟩ := b2_some hc
                    refine gc_VI (n := 2) (q0 := 0) (ci := 3) (w' := NW cy aN t99.1 t99.2.1 t99.2.2.1 t99.2.2.2) hx hb hml hown hts hK hP hD hS hA hl.1 ⟨Nat.le_refl _, Nat.le_refl _⟩ (C_X3_draw l D cy aN t97.1 t97.2.1 t97.2.2.1 t97.2.2.2 0 0 x99 t99.1 t99.2.1 t99.2.2.1 t99.2.2.2 hc99) gL_refused_X3_draw rfl (by decide +kernel) rfl ⟨by decide, by decide⟩ Jn.same rfl rfl rfl (Nat.le_of_ble_eq_true rfl) dL_refused_533 (fun H locs hP hD hS => ?_)
                    refine lv_iconst (v := (-1)) hx hb dL_refused_536 (by decide) ?_
                    refine lv_icmp_ne (tgt := 616) hx hb dL_refused_537 (by decide) (fun c100 => ?_) (fun c100 => ?_)
                    · replace hc := ite_f c100 hc
                      cases hc
                    · replace hc := ite_t c100 hc
                      refine lv_aload_n hx hb dL_refused_540 rfl (lv_at hl 1 rfl) ?_
                      refine lv_iconst (v := 0) hx hb dL_refused_541 (by decide) ?_
                      refine lv_sipush (v := 1000) hx hb dL_refused_542 (by decide +kernel) ?_
                      obtain ⟨x101, t101, hc101, hc⟩ := b2_some hc
                      refine gc_VI (n := 2) (q0 := 0) (ci := 3) (w' := NW cy aN t101.1 t101.2.1 t101.2.2.1 t101.2.2.2) hx hb hml hown hts hK hP hD hS hA hl.1 ⟨Nat.le_refl _, Nat.le_refl _⟩ (C_X3_draw l D cy aN t99.1 t99.2.1 t99.2.2.1 t99.2.2.2 0 1000 x101 t101.1 t101.2.1 t101.2.2.1 t101.2.2.2 hc101) gL_refused_X3_draw rfl (by decide +kernel) rfl ⟨by decide, by decide⟩ Jn.same rfl rfl rfl (Nat.le_of_ble_eq_true rfl) dL_refused_545 (fun H locs hP hD hS => ?_)
                      refine lv_iconst (v := (-1)) hx hb dL_refused_548 (by decide) ?_
                      refine lv_icmp_ne (tgt := 616) hx hb dL_refused_549 (by decide) (fun c102 => ?_) (fun c102 => ?_)
                      · replace hc := ite_f c102 hc
                        cases hc
                      · replace hc := ite_t c102 hc
                        refine lv_aload_n hx hb dL_refused_552 rfl (lv_at hl 1 rfl) ?_
                        refine lv_iconst (v := 0) hx hb dL_refused_553 (by decide) ?_
                        refine lv_iconst (v := 1) hx hb dL_refused_554 (by decide) ?_
                        refine lv_iload_n hx hb dL_refused_555 rfl (lv_at hl 3 rfl) ?_
                        obtain ⟨x103, t103, hc103, hc⟩ := b2_some hc
                        refine gc_VI (n := 3) (q0 := 0) (ci := 3) (w' := NW cy aN t103.1 t103.2.1 t103.2.2.1 t103.2.2.2) hx hb hml hown hts hK hP hD hS hA hl.1 ⟨Nat.le_refl _, Nat.le_refl _⟩ (C_X3_gives l D cy aN t101.1 t101.2.1 t101.2.2.1 t101.2.2.2 0 1 y3 x103 t103.1 t103.2.1 t103.2.2.1 t103.2.2.2 hc103) gL_refused_X3_gives rfl (by decide +kernel) rfl ⟨by decide, by decide⟩ Jn.same rfl rfl rfl (Nat.le_of_ble_eq_true rfl) dL_refused_556 (fun H locs hP hD hS => ?_)
                        refine lv_iconst (v := (-1)) hx hb dL_refused_559 (by decide) ?_
                        refine lv_icmp_ne (tgt := 616) hx hb dL_refused_560 (by decide) (fun c104 => ?_) (fun c104 => ?_)
                        · replace hc := ite_f c104 hc
                          cases hc
                        · replace hc := ite_t c104 hc
                          refine lv_aload_n hx hb dL_refused_563 rfl (lv_at hl 1 rfl) ?_
                          refine lv_iconst (v := 0) hx hb dL_refused_564 (by decide) ?_
                          refine lv_sipush (v := 301) hx hb dL_refused_565 (by decide +kernel) ?_
                          obtain ⟨x105, t105, hc105, hc⟩ := b2_some hc
                          refine gc_VI (n := 2) (q0 := 0) (ci := 3) (w' := NW cy aN t105.1 t105.2.1 t105.2.2.1 t105.2.2.2) hx hb hml hown hts hK hP hD hS hA hl.1 ⟨Nat.le_refl _, Nat.le_refl _⟩ (C_X3_waterIn l D cy aN t103.1 t103.2.1 t103.2.2.1 t103.2.2.2 0 301 x105 t105.1 t105.2.1 t105.2.2.1 t105.2.2.2 hc105) gL_refused_X3_waterIn rfl (by decide +kernel) rfl ⟨by decide, by decide⟩ Jn.same rfl rfl rfl (Nat.le_of_ble_eq_true rfl) dL_refused_568 (fun H locs hP hD hS => ?_)
                          refine lv_iconst (v := (-1)) hx hb dL_refused_571 (by decide) ?_
                          refine lv_icmp_ne (tgt := 616) hx hb dL_refused_572 (by decide) (fun c106 => ?_) (fun c106 => ?_)
                          · replace hc := ite_f c106 hc
                            cases hc
                          · replace hc := ite_t c106 hc
                            refine lv_iload hx hb dL_refused_575 (lv_at hl 0 rfl) ?_
                            refine lv_sipush (v := 999) hx hb dL_refused_577 (by decide +kernel) ?_
                            refine lv_icmp_ge (tgt := 612) hx hb dL_refused_580 (by decide) (fun c107 => ?_) (fun c107 => ?_)
                            · replace hc := ite_t c107 hc
                              exact J612 y1 y3 y4 t105.1 t105.2.1 t105.2.2.1 t105.2.2.2 H locs ls hc hP hD hS (lv_sub hl [1, 2, 3, 4] rfl)
                            · replace hc := ite_f c107 hc
                              refine lv_aload_n hx hb dL_refused_583 rfl (lv_at hl 1 rfl) ?_
                              refine lv_iconst (v := 0) hx hb dL_refused_584 (by decide) ?_
                              refine lv_iload hx hb dL_refused_585 (lv_at hl 0 rfl) ?_
                              refine lv_iconst (v := 1) hx hb dL_refused_587 (by decide) ?_
                              refine lv_iadd hx hb dL_refused_588 ?_
                              obtain ⟨x108, t108, hc108, hc⟩ := b2_some hc
                              refine gc_VI (n := 2) (q0 := 0) (ci := 3) (w' := NW cy aN t108.1 t108.2.1 t108.2.2.1 t108.2.2.2) hx hb hml hown hts hK hP hD hS hA hl.1 ⟨Nat.le_refl _, Nat.le_refl _⟩ (C_X3_draw l D cy aN t105.1 t105.2.1 t105.2.2.1 t105.2.2.2 0 (x80 + 1) x108 t108.1 t108.2.1 t108.2.2.1 t108.2.2.2 hc108) gL_refused_X3_draw rfl (by decide +kernel) rfl ⟨by decide, by decide⟩ Jn.same rfl rfl rfl (Nat.le_of_ble_eq_true rfl) dL_refused_589 (fun H locs hP hD hS => ?_)
                              refine lv_bipush (v := (-2)) hx hb dL_refused_592 (by decide +kernel) ?_
                              refine lv_icmp_ne (tgt := 616) hx hb dL_refused_594 (by decide) (fun c109 => ?_) (fun c109 => ?_)
                              · replace hc := ite_f c109 hc
                                cases hc
                              · replace hc := ite_t c109 hc
                                refine lv_aload_n hx hb dL_refused_597 rfl (lv_at hl 1 rfl) ?_
                                refine lv_iconst (v := 0) hx hb dL_refused_598 (by decide) ?_
                                refine lv_iload hx hb dL_refused_599 (lv_at hl 0 rfl) ?_
                                refine lv_iconst (v := 1) hx hb dL_refused_601 (by decide) ?_
                                refine lv_iadd hx hb dL_refused_602 ?_
                                refine lv_iconst (v := 0) hx hb dL_refused_603 (by decide) ?_
                                obtain ⟨x110, t110, hc110, hc⟩ := b2_some hc
                                refine gc_VI (n := 3) (q0 := 0) (ci := 3) (w' := NW cy aN t110.1 t110.2.1 t110.2.2.1 t110.2.2.2) hx hb hml hown hts hK hP hD hS hA hl.1 ⟨Nat.le_refl _, Nat.le_refl _⟩ (C_X3_gives l D cy aN t108.1 t108.2.1 t108.2.2.1 t108.2.2.2 0 (x80 + 1) 0 x110 t110.1 t110.2.1 t110.2.2.1 t110.2.2.2 hc110) gL_refused_X3_gives rfl (by decide +kernel) rfl ⟨by decide, by decide⟩ Jn.same rfl rfl rfl (Nat.le_of_ble_eq_true rfl) dL_refused_604 (fun H locs hP hD hS => ?_)
                                refine lv_bipush (v := (-2)) hx hb dL_refused_607 (by decide +kernel) ?_
                                refine lv_icmp_ne (tgt := 616) hx hb dL_refused_609 (by decide) (fun c111 => ?_) (fun c111 => ?_)
                                · replace hc := ite_f c111 hc
                                  cases hc
                                · replace hc := ite_t c111 hc
                                  exact J612 y1 y3 y4 t110.1 t110.2.1 t110.2.2.1 t110.2.2.2 H locs ls hc hP hD hS (lv_sub hl [1, 2, 3, 4] rfl)
  have J257 : ∀ (y1 : Int64) (y3 : Int32) (y4 : Int32) (v1 : FV) (v2 : FV) (G : (Nat → FV)) (v3 : FV) (H : Heap) (locs : List Loc) (ls : Array Slot), f_L_refused_J257 y1 y3 y4 v1 v2 G v3 = some (r, (v1', v2', G', v3')) → va_P D vwCl (NW cy aN v1 v2 G v3) H → va_D A (NW cy aN v1 v2 G v3) → va_S A s.heap H locs → lv_has ls 8 [(0, .ref (aN 0 0)), (1, .long y1), (3, .int y3), (4, .int y4)] → W p l e (RM 8 189) s m args below meth c H locs 0 0 Q (F0 m 257 ls []) := by
    intro y1 y3 y4 v1 v2 G v3 H locs ls hc hP hD hS hl
    refine lv_aload_n hx hb dL_refused_257 rfl (lv_at hl 0 rfl) ?_
    refine lv_iconst (v := 0) hx hb dL_refused_258 (by decide) ?_
    obtain ⟨x42, t42, hc42, hc⟩ := b2_some hc
    refine gc_VI (n := 1) (q0 := 0) (ci := 3) (w' := NW cy aN t42.1 t42.2.1 t42.2.2.1 t42.2.2.2) hx hb hml hown hts hK hP hD hS hA hl.1 ⟨Nat.le_refl _, Nat.le_refl _⟩ (C_X3_tick l D cy aN v1 v2 G v3 0 x42 t42.1 t42.2.1 t42.2.2.1 t42.2.2.2 hc42) gL_refused_X3_tick rfl (by decide +kernel) rfl ⟨by decide, by decide⟩ Jn.same rfl rfl rfl (Nat.le_of_ble_eq_true rfl) dL_refused_259 (fun H locs hP hD hS => ?_)
    refine lv_iconst (v := (-1)) hx hb dL_refused_262 (by decide) ?_
    refine lv_icmp_ne (tgt := 411) hx hb dL_refused_263 (by decide) (fun c43 => ?_) (fun c43 => ?_)
    · replace hc := ite_f c43 hc
      cases hc
    · replace hc := ite_t c43 hc
      refine lv_aload_n hx hb dL_refused_266 rfl (lv_at hl 0 rfl) ?_
      refine lv_sipush (v := 201) hx hb dL_refused_267 (by decide +kernel) ?_
      obtain ⟨x44, t44, hc44, hc⟩ := b2_some hc
      refine gc_VI (n := 1) (q0 := 0) (ci := 3) (w' := NW cy aN t44.1 t44.2.1 t44.2.2.1 t44.2.2.2) hx hb hml hown hts hK hP hD hS hA hl.1 ⟨Nat.le_refl _, Nat.le_refl _⟩ (C_X3_tick l D cy aN t42.1 t42.2.1 t42.2.2.1 t42.2.2.2 201 x44 t44.1 t44.2.1 t44.2.2.1 t44.2.2.2 hc44) gL_refused_X3_tick rfl (by decide +kernel) rfl ⟨by decide, by decide⟩ Jn.same rfl rfl rfl (Nat.le_of_ble_eq_true rfl) dL_refused_270 (fun H locs hP hD hS => ?_)
      refine lv_iconst (v := (-1)) hx hb dL_refused_273 (by decide) ?_
      refine lv_icmp_ne (tgt := 411) hx hb dL_refused_274 (by decide) (fun c45 => ?_) (fun c45 => ?_)
      · replace hc := ite_f c45 hc
        cases hc
      · replace hc := ite_t c45 hc
        refine lv_aload_n hx hb dL_refused_277 rfl (lv_at hl 0 rfl) ?_
        refine lv_iconst (v := 2) hx hb dL_refused_278 (by decide) ?_
        refine lv_iconst (v := 1) hx hb dL_refused_279 (by decide) ?_
        obtain ⟨x46, t46, hc46, hc⟩ := b2_some hc
        refine gc_VI (n := 2) (q0 := 0) (ci := 3) (w' := NW cy aN t46.1 t46.2.1 t46.2.2.1 t46.2.2.2) hx hb hml hown hts hK hP hD hS hA hl.1 ⟨Nat.le_refl _, Nat.le_refl _⟩ (C_X3_set l D cy aN t44.1 t44.2.1 t44.2.2.1 t44.2.2.2 2 1 x46 t46.1 t46.2.1 t46.2.2.1 t46.2.2.2 hc46) gL_refused_X3_set rfl (by decide +kernel) rfl ⟨by decide, by decide⟩ Jn.same rfl rfl rfl (Nat.le_of_ble_eq_true rfl) dL_refused_280 (fun H locs hP hD hS => ?_)
        refine lv_iconst (v := (-1)) hx hb dL_refused_283 (by decide) ?_
        refine lv_icmp_ne (tgt := 411) hx hb dL_refused_284 (by decide) (fun c47 => ?_) (fun c47 => ?_)
        · replace hc := ite_f c47 hc
          cases hc
        · replace hc := ite_t c47 hc
          refine lv_aload_n hx hb dL_refused_287 rfl (lv_at hl 0 rfl) ?_
          refine lv_iconst (v := 0) hx hb dL_refused_288 (by decide) ?_
          refine lv_iconst (v := 3) hx hb dL_refused_289 (by decide) ?_
          obtain ⟨x48, t48, hc48, hc⟩ := b2_some hc
          refine gc_VI (n := 2) (q0 := 0) (ci := 3) (w' := NW cy aN t48.1 t48.2.1 t48.2.2.1 t48.2.2.2) hx hb hml hown hts hK hP hD hS hA hl.1 ⟨Nat.le_refl _, Nat.le_refl _⟩ (C_X3_set l D cy aN t46.1 t46.2.1 t46.2.2.1 t46.2.2.2 0 3 x48 t48.1 t48.2.1 t48.2.2.1 t48.2.2.2 hc48) gL_refused_X3_set rfl (by decide +kernel) rfl ⟨by decide, by decide⟩ Jn.same rfl rfl rfl (Nat.le_of_ble_eq_true rfl) dL_refused_290 (fun H locs hP hD hS => ?_)
          refine lv_iconst (v := (-1)) hx hb dL_refused_293 (by decide) ?_
          refine lv_icmp_ne (tgt := 411) hx hb dL_refused_294 (by decide) (fun c49 => ?_) (fun c49 => ?_)
          · replace hc := ite_f c49 hc
            cases hc
          · replace hc := ite_t c49 hc
            refine lv_aload_n hx hb dL_refused_297 rfl (lv_at hl 0 rfl) ?_
            refine lv_iconst (v := 0) hx hb dL_refused_298 (by decide) ?_
            refine lv_bipush (v := 101) hx hb dL_refused_299 (by decide +kernel) ?_
            obtain ⟨x50, t50, hc50, hc⟩ := b2_some hc
            refine gc_VI (n := 2) (q0 := 0) (ci := 3) (w' := NW cy aN t50.1 t50.2.1 t50.2.2.1 t50.2.2.2) hx hb hml hown hts hK hP hD hS hA hl.1 ⟨Nat.le_refl _, Nat.le_refl _⟩ (C_X3_set l D cy aN t48.1 t48.2.1 t48.2.2.1 t48.2.2.2 0 101 x50 t50.1 t50.2.1 t50.2.2.1 t50.2.2.2 hc50) gL_refused_X3_set rfl (by decide +kernel) rfl ⟨by decide, by decide⟩ Jn.same rfl rfl rfl (Nat.le_of_ble_eq_true rfl) dL_refused_301 (fun H locs hP hD hS => ?_)
            refine lv_iconst (v := (-1)) hx hb dL_refused_304 (by decide) ?_
            refine lv_icmp_ne (tgt := 411) hx hb dL_refused_305 (by decide) (fun c51 => ?_) (fun c51 => ?_)
            · replace hc := ite_f c51 hc
              cases hc
            · replace hc := ite_t c51 hc
              refine lv_aload_n hx hb dL_refused_308 rfl (lv_at hl 0 rfl) ?_
              refine lv_iconst (v := 1) hx hb dL_refused_309 (by decide) ?_
              refine lv_iconst (v := 2) hx hb dL_refused_310 (by decide) ?_
              obtain ⟨x52, t52, hc52, hc⟩ := b2_some hc
              refine gc_VI (n := 2) (q0 := 0) (ci := 3) (w' := NW cy aN t52.1 t52.2.1 t52.2.2.1 t52.2.2.2) hx hb hml hown hts hK hP hD hS hA hl.1 ⟨Nat.le_refl _, Nat.le_refl _⟩ (C_X3_set l D cy aN t50.1 t50.2.1 t50.2.2.1 t50.2.2.2 1 2 x52 t52.1 t52.2.1 t52.2.2.1 t52.2.2.2 hc52) gL_refused_X3_set rfl (by decide +kernel) rfl ⟨by decide, by decide⟩ Jn.same rfl rfl rfl (Nat.le_of_ble_eq_true rfl) dL_refused_311 (fun H locs hP hD hS => ?_)
              refine lv_iconst (v := (-1)) hx hb dL_refused_314 (by decide) ?_
              refine lv_icmp_ne (tgt := 411) hx hb dL_refused_315 (by decide) (fun c53 => ?_) (fun c53 => ?_)
              · replace hc := ite_f c53 hc
                cases hc
              · replace hc := ite_t c53 hc
                refine lv_aload_n hx hb dL_refused_318 rfl (lv_at hl 0 rfl) ?_
                refine lv_iconst (v := 1) hx hb dL_refused_319 (by decide) ?_
                refine lv_iconst (v := (-1)) hx hb dL_refused_320 (by decide) ?_
                obtain ⟨x54, t54, hc54, hc⟩ := b2_some hc
                refine gc_VI (n := 2) (q0 := 0) (ci := 3) (w' := NW cy aN t54.1 t54.2.1 t54.2.2.1 t54.2.2.2) hx hb hml hown hts hK hP hD hS hA hl.1 ⟨Nat.le_refl _, Nat.le_refl _⟩ (C_X3_set l D cy aN t52.1 t52.2.1 t52.2.2.1 t52.2.2.2 1 ((-1)) x54 t54.1 t54.2.1 t54.2.2.1 t54.2.2.2 hc54) gL_refused_X3_set rfl (by decide +kernel) rfl ⟨by decide, by decide⟩ Jn.same rfl rfl rfl (Nat.le_of_ble_eq_true rfl) dL_refused_321 (fun H locs hP hD hS => ?_)
                refine lv_iconst (v := (-1)) hx hb dL_refused_324 (by decide) ?_
                refine lv_icmp_ne (tgt := 411) hx hb dL_refused_325 (by decide) (fun c55 => ?_) (fun c55 => ?_)
                · replace hc := ite_f c55 hc
                  cases hc
                · replace hc := ite_t c55 hc
                  refine lv_aload_n hx hb dL_refused_328 rfl (lv_at hl 0 rfl) ?_
                  refine lv_iload_n hx hb dL_refused_329 rfl (lv_at hl 2 rfl) ?_
                  obtain ⟨x56, t56, hc56, hc⟩ := b2_some hc
                  refine gc_VI (n := 1) (q0 := 0) (ci := 3) (w' := NW cy aN t56.1 t56.2.1 t56.2.2.1 t56.2.2.2) hx hb hml hown hts hK hP hD hS hA hl.1 ⟨Nat.le_refl _, Nat.le_refl _⟩ (C_X3_able l D cy aN t54.1 t54.2.1 t54.2.2.1 t54.2.2.2 y3 x56 t56.1 t56.2.1 t56.2.2.1 t56.2.2.2 hc56) gL_refused_X3_able rfl (by decide +kernel) rfl ⟨by decide, by decide⟩ Jn.same rfl rfl rfl (Nat.le_of_ble_eq_true rfl) dL_refused_330 (fun H locs hP hD hS => ?_)
                  refine lv_iconst (v := (-1)) hx hb dL_refused_333 (by decide) ?_
                  refine lv_icmp_ne (tgt := 411) hx hb dL_refused_334 (by decide) (fun c57 => ?_) (fun c57 => ?_)
                  · replace hc := ite_f c57 hc
                    cases hc
                  · replace hc := ite_t c57 hc
                    refine lv_aload_n hx hb dL_refused_337 rfl (lv_at hl 0 rfl) ?_
                    refine lv_iload_n hx hb dL_refused_338 rfl (lv_at hl 2 rfl) ?_
                    refine lv_iconst (v := 1) hx hb dL_refused_339 (by decide) ?_
                    refine lv_iconst (v := 0) hx hb dL_refused_340 (by decide) ?_
                    obtain ⟨x58, t58, hc58, hc⟩ := b2_some hc
                    refine gc_VI (n := 3) (q0 := 0) (ci := 3) (w' := NW cy aN t58.1 t58.2.1 t58.2.2.1 t58.2.2.2) hx hb hml hown hts hK hP hD hS hA hl.1 ⟨Nat.le_refl _, Nat.le_refl _⟩ (C_X3_gives l D cy aN t56.1 t56.2.1 t56.2.2.1 t56.2.2.2 y3 1 0 x58 t58.1 t58.2.1 t58.2.2.1 t58.2.2.2 hc58) gL_refused_X3_gives rfl (by decide +kernel) rfl ⟨by decide, by decide⟩ Jn.same rfl rfl rfl (Nat.le_of_ble_eq_true rfl) dL_refused_341 (fun H locs hP hD hS => ?_)
                    refine lv_iconst (v := (-1)) hx hb dL_refused_344 (by decide) ?_
                    refine lv_icmp_ne (tgt := 411) hx hb dL_refused_345 (by decide) (fun c59 => ?_) (fun c59 => ?_)
                    · replace hc := ite_f c59 hc
                      cases hc
                    · replace hc := ite_t c59 hc
                      refine lv_aload_n hx hb dL_refused_348 rfl (lv_at hl 0 rfl) ?_
                      refine lv_iconst (v := (-1)) hx hb dL_refused_349 (by decide) ?_
                      refine lv_iconst (v := 1) hx hb dL_refused_350 (by decide) ?_
                      obtain ⟨x60, t60, hc60, hc⟩ := b2_some hc
                      refine gc_VI (n := 2) (q0 := 0) (ci := 3) (w' := NW cy aN t60.1 t60.2.1 t60.2.2.1 t60.2.2.2) hx hb hml hown hts hK hP hD hS hA hl.1 ⟨Nat.le_refl _, Nat.le_refl _⟩ (C_X3_possibleIn l D cy aN t58.1 t58.2.1 t58.2.2.1 t58.2.2.2 ((-1)) 1 x60 t60.1 t60.2.1 t60.2.2.1 t60.2.2.2 hc60) gL_refused_X3_possibleIn rfl (by decide +kernel) rfl ⟨by decide, by decide⟩ Jn.same rfl rfl rfl (Nat.le_of_ble_eq_true rfl) dL_refused_351 (fun H locs hP hD hS => ?_)
                      refine lv_iconst (v := (-1)) hx hb dL_refused_354 (by decide) ?_
                      refine lv_icmp_ne (tgt := 411) hx hb dL_refused_355 (by decide) (fun c61 => ?_) (fun c61 => ?_)
                      · replace hc := ite_f c61 hc
                        cases hc
                      · replace hc := ite_t c61 hc
                        refine lv_aload_n hx hb dL_refused_358 rfl (lv_at hl 0 rfl) ?_
                        refine lv_iload_n hx hb dL_refused_359 rfl (lv_at hl 2 rfl) ?_
                        refine lv_iconst (v := 0) hx hb dL_refused_360 (by decide) ?_
                        obtain ⟨x62, t62, hc62, hc⟩ := b2_some hc
                        refine gc_VI (n := 2) (q0 := 0) (ci := 3) (w' := NW cy aN t62.1 t62.2.1 t62.2.2.1 t62.2.2.2) hx hb hml hown hts hK hP hD hS hA hl.1 ⟨Nat.le_refl _, Nat.le_refl _⟩ (C_X3_waterIn l D cy aN t60.1 t60.2.1 t60.2.2.1 t60.2.2.2 y3 0 x62 t62.1 t62.2.1 t62.2.2.1 t62.2.2.2 hc62) gL_refused_X3_waterIn rfl (by decide +kernel) rfl ⟨by decide, by decide⟩ Jn.same rfl rfl rfl (Nat.le_of_ble_eq_true rfl) dL_refused_361 (fun H locs hP hD hS => ?_)
                        refine lv_iconst (v := (-1)) hx hb dL_refused_364 (by decide) ?_
                        refine lv_icmp_ne (tgt := 411) hx hb dL_refused_365 (by decide) (fun c63 => ?_) (fun c63 => ?_)
                        · replace hc := ite_f c63 hc
                          cases hc
                        · replace hc := ite_t c63 hc
                          refine lv_aload_n hx hb dL_refused_368 rfl (lv_at hl 0 rfl) ?_
                          refine lv_bipush (v := 15) hx hb dL_refused_369 (by decide +kernel) ?_
                          obtain ⟨x64, hc64, hc⟩ := b1_some hc
                          refine gc_VI (n := 1) (q0 := 0) (ci := 3) (w' := NW cy aN t62.1 t62.2.1 t62.2.2.1 t62.2.2.2) hx hb hml hown hts hK hP hD hS hA hl.1 ⟨Nat.le_refl _, Nat.le_refl _⟩ (C_X3_count l D cy aN t62.1 t62.2.1 t62.2.2.1 t62.2.2.2 15 x64 hc64) gL_refused_X3_count rfl (by decide +kernel) rfl ⟨by decide, by decide⟩ Jn.same rfl rfl rfl (Nat.le_of_ble_eq_true rfl) dL_refused_371 (fun H locs hP hD hS => ?_)
                          refine lv_iconst (v := (-1)) hx hb dL_refused_374 (by decide) ?_
                          refine lv_icmp_ne (tgt := 411) hx hb dL_refused_375 (by decide) (fun c65 => ?_) (fun c65 => ?_)
                          · replace hc := ite_f c65 hc
                            cases hc
                          · replace hc := ite_t c65 hc
                            refine lv_aload_n hx hb dL_refused_378 rfl (lv_at hl 0 rfl) ?_
                            refine lv_bipush (v := 22) hx hb dL_refused_379 (by decide +kernel) ?_
                            obtain ⟨x66, hc66, hc⟩ := b1_some hc
                            refine gc_VI (n := 1) (q0 := 0) (ci := 3) (w' := NW cy aN t62.1 t62.2.1 t62.2.2.1 t62.2.2.2) hx hb hml hown hts hK hP hD hS hA hl.1 ⟨Nat.le_refl _, Nat.le_refl _⟩ (C_X3_count l D cy aN t62.1 t62.2.1 t62.2.2.1 t62.2.2.2 22 x66 hc66) gL_refused_X3_count rfl (by decide +kernel) rfl ⟨by decide, by decide⟩ Jn.same rfl rfl rfl (Nat.le_of_ble_eq_true rfl) dL_refused_381 (fun H locs hP hD hS => ?_)
                            refine lv_iconst (v := (-1)) hx hb dL_refused_384 (by decide) ?_
                            refine lv_icmp_ne (tgt := 411) hx hb dL_refused_385 (by decide) (fun c67 => ?_) (fun c67 => ?_)
                            · replace hc := ite_f c67 hc
                              cases hc
                            · replace hc := ite_t c67 hc
                              refine lv_aload_n hx hb dL_refused_388 rfl (lv_at hl 0 rfl) ?_
                              refine lv_bipush (v := 31) hx hb dL_refused_389 (by decide +kernel) ?_
                              obtain ⟨x68, t68, hc68, hc⟩ := b2_some hc
                              refine gc_VI (n := 1) (q0 := 0) (ci := 3) (w' := NW cy aN t68.1 t68.2.1 t68.2.2.1 t68.2.2.2) hx hb hml hown hts hK hP hD hS hA hl.1 ⟨Nat.le_refl _, Nat.le_refl _⟩ (C_X3_type l D cy aN t62.1 t62.2.1 t62.2.2.1 t62.2.2.2 31 x68 t68.1 t68.2.1 t68.2.2.1 t68.2.2.2 hc68) gL_refused_X3_type rfl (by decide +kernel) rfl ⟨by decide, by decide⟩ Jn.same rfl rfl rfl (Nat.le_of_ble_eq_true rfl) dL_refused_391 (fun H locs hP hD hS => ?_)
                              refine lv_iconst (v := (-1)) hx hb dL_refused_394 (by decide) ?_
                              refine lv_icmp_ne (tgt := 411) hx hb dL_refused_395 (by decide) (fun c69 => ?_) (fun c69 => ?_)
                              · replace hc := ite_f c69 hc
                                cases hc
                              · replace hc := ite_t c69 hc
                                refine lv_aload_n hx hb dL_refused_398 rfl (lv_at hl 0 rfl) ?_
                                refine lv_iconst (v := 2) hx hb dL_refused_399 (by decide) ?_
                                obtain ⟨x70, t70, hc70, hc⟩ := b2_some hc
                                refine gc_VI (n := 1) (q0 := 0) (ci := 3) (w' := NW cy aN t70.1 t70.2.1 t70.2.2.1 t70.2.2.2) hx hb hml hown hts hK hP hD hS hA hl.1 ⟨Nat.le_refl _, Nat.le_refl _⟩ (C_X3_fault l D cy aN t68.1 t68.2.1 t68.2.2.1 t68.2.2.2 2 x70 t70.1 t70.2.1 t70.2.2.1 t70.2.2.2 hc70) gL_refused_X3_fault rfl (by decide +kernel) rfl ⟨by decide, by decide⟩ Jn.same rfl rfl rfl (Nat.le_of_ble_eq_true rfl) dL_refused_400 (fun H locs hP hD hS => ?_)
                                refine lv_iconst (v := (-1)) hx hb dL_refused_403 (by decide) ?_
                                refine lv_icmp_ne (tgt := 411) hx hb dL_refused_404 (by decide) (fun c71 => ?_) (fun c71 => ?_)
                                · replace hc := ite_f c71 hc
                                  cases hc
                                · replace hc := ite_t c71 hc
                                  refine lv_iconst (v := 1) hx hb dL_refused_407 (by decide) ?_
                                  refine lv_goto (tgt := 412) hx hb dL_refused_408 (by decide) ?_
                                  refine lv_istore (lv' := [(6, .int 1), (0, .ref (aN 0 0)), (1, .long y1), (3, .int y3), (4, .int y4)]) hx hb dL_refused_412 hl (by decide) rfl (fun ls hl => ?_)
                                  exact J414 y1 y3 y4 t70.1 t70.2.1 t70.2.2.1 t70.2.2.2 H locs ls hc hP hD hS (lv_sub hl [1, 2, 3, 4, 0] rfl)
  have J40 : ∀ (y1 : Int64) (y3 : Int32) (y4 : Int32) (y5 : Int32) (z0 : Int32) (v1 : FV) (v2 : FV) (G : (Nat → FV)) (v3 : FV) (H : Heap) (locs : List Loc) (ls : Array Slot), f_L_refused_J40 y1 y3 y4 y5 z0 v1 v2 G v3 = some (r, (v1', v2', G', v3')) → va_P D vwCl (NW cy aN v1 v2 G v3) H → va_D A (NW cy aN v1 v2 G v3) → va_S A s.heap H locs → lv_has ls 8 [(0, .ref (aN 0 0)), (1, .long y1), (3, .int y3), (4, .int y4), (5, .int y5)] → W p l e (RM 8 189) s m args below meth c H locs 0 0 Q (F0 m 40 ls [.int z0, .ref (aN 0 0)]) := by
    intro y1 y3 y4 y5 z0 v1 v2 G v3 H locs ls hc hP hD hS hl
    refine lv_bipush (v := 10) hx hb dL_refused_40 (by decide +kernel) ?_
    refine lv_iconst (v := 1) hx hb dL_refused_42 (by decide) ?_
    refine lv_iconst (v := 1) hx hb dL_refused_43 (by decide) ?_
    obtain ⟨x6, t6, hc6, hc⟩ := b2_some hc
    refine gc_VI (n := 4) (q0 := 0) (ci := 3) (w' := NW cy aN t6.1 t6.2.1 t6.2.2.1 t6.2.2.2) hx hb hml hown hts hK hP hD hS hA hl.1 ⟨Nat.le_refl _, Nat.le_refl _⟩ (C_X3_well l D cy aN v1 v2 G v3 z0 10 1 1 x6 t6.1 t6.2.1 t6.2.2.1 t6.2.2.2 hc6) gL_refused_X3_well rfl (by decide +kernel) rfl ⟨by decide, by decide⟩ Jn.same rfl rfl rfl (Nat.le_of_ble_eq_true rfl) dL_refused_44 (fun H locs hP hD hS => ?_)
    refine lv_iconst (v := (-1)) hx hb dL_refused_47 (by decide) ?_
    refine lv_icmp_ne (tgt := 249) hx hb dL_refused_48 (by decide) (fun c7 => ?_) (fun c7 => ?_)
    · replace hc := ite_f c7 hc
      cases hc
    · replace hc := ite_t c7 hc
      refine lv_aload_n hx hb dL_refused_51 rfl (lv_at hl 0 rfl) ?_
      refine lv_iload_n hx hb dL_refused_52 rfl (lv_at hl 2 rfl) ?_
      refine lv_bipush (v := 10) hx hb dL_refused_53 (by decide +kernel) ?_
      refine lv_iconst (v := 1) hx hb dL_refused_55 (by decide) ?_
      refine lv_iconst (v := 1) hx hb dL_refused_56 (by decide) ?_
      obtain ⟨x8, t8, hc8, hc⟩ := b2_some hc
      refine gc_VI (n := 4) (q0 := 0) (ci := 3) (w' := NW cy aN t8.1 t8.2.1 t8.2.2.1 t8.2.2.2) hx hb hml hown hts hK hP hD hS hA hl.1 ⟨Nat.le_refl _, Nat.le_refl _⟩ (C_X3_well l D cy aN t6.1 t6.2.1 t6.2.2.1 t6.2.2.2 y3 10 1 1 x8 t8.1 t8.2.1 t8.2.2.1 t8.2.2.2 hc8) gL_refused_X3_well rfl (by decide +kernel) rfl ⟨by decide, by decide⟩ Jn.same rfl rfl rfl (Nat.le_of_ble_eq_true rfl) dL_refused_57 (fun H locs hP hD hS => ?_)
      refine lv_iconst (v := (-1)) hx hb dL_refused_60 (by decide) ?_
      refine lv_icmp_ne (tgt := 249) hx hb dL_refused_61 (by decide) (fun c9 => ?_) (fun c9 => ?_)
      · replace hc := ite_f c9 hc
        cases hc
      · replace hc := ite_t c9 hc
        refine lv_aload_n hx hb dL_refused_64 rfl (lv_at hl 0 rfl) ?_
        refine lv_iload hx hb dL_refused_65 (lv_at hl 4 rfl) ?_
        refine lv_iconst (v := 0) hx hb dL_refused_67 (by decide) ?_
        refine lv_iconst (v := 1) hx hb dL_refused_68 (by decide) ?_
        refine lv_iconst (v := 1) hx hb dL_refused_69 (by decide) ?_
        obtain ⟨x10, t10, hc10, hc⟩ := b2_some hc
        refine gc_VI (n := 4) (q0 := 0) (ci := 3) (w' := NW cy aN t10.1 t10.2.1 t10.2.2.1 t10.2.2.2) hx hb hml hown hts hK hP hD hS hA hl.1 ⟨Nat.le_refl _, Nat.le_refl _⟩ (C_X3_well l D cy aN t8.1 t8.2.1 t8.2.2.1 t8.2.2.2 y5 0 1 1 x10 t10.1 t10.2.1 t10.2.2.1 t10.2.2.2 hc10) gL_refused_X3_well rfl (by decide +kernel) rfl ⟨by decide, by decide⟩ Jn.same rfl rfl rfl (Nat.le_of_ble_eq_true rfl) dL_refused_70 (fun H locs hP hD hS => ?_)
        refine lv_iconst (v := (-1)) hx hb dL_refused_73 (by decide) ?_
        refine lv_icmp_ne (tgt := 249) hx hb dL_refused_74 (by decide) (fun c11 => ?_) (fun c11 => ?_)
        · replace hc := ite_f c11 hc
          cases hc
        · replace hc := ite_t c11 hc
          refine lv_aload_n hx hb dL_refused_77 rfl (lv_at hl 0 rfl) ?_
          refine lv_iload hx hb dL_refused_78 (lv_at hl 4 rfl) ?_
          refine lv_sipush (v := 1001) hx hb dL_refused_80 (by decide +kernel) ?_
          refine lv_iconst (v := 1) hx hb dL_refused_83 (by decide) ?_
          refine lv_iconst (v := 1) hx hb dL_refused_84 (by decide) ?_
          obtain ⟨x12, t12, hc12, hc⟩ := b2_some hc
          refine gc_VI (n := 4) (q0 := 0) (ci := 3) (w' := NW cy aN t12.1 t12.2.1 t12.2.2.1 t12.2.2.2) hx hb hml hown hts hK hP hD hS hA hl.1 ⟨Nat.le_refl _, Nat.le_refl _⟩ (C_X3_well l D cy aN t10.1 t10.2.1 t10.2.2.1 t10.2.2.2 y5 1001 1 1 x12 t12.1 t12.2.1 t12.2.2.1 t12.2.2.2 hc12) gL_refused_X3_well rfl (by decide +kernel) rfl ⟨by decide, by decide⟩ Jn.same rfl rfl rfl (Nat.le_of_ble_eq_true rfl) dL_refused_85 (fun H locs hP hD hS => ?_)
          refine lv_iconst (v := (-1)) hx hb dL_refused_88 (by decide) ?_
          refine lv_icmp_ne (tgt := 249) hx hb dL_refused_89 (by decide) (fun c13 => ?_) (fun c13 => ?_)
          · replace hc := ite_f c13 hc
            cases hc
          · replace hc := ite_t c13 hc
            refine lv_aload_n hx hb dL_refused_92 rfl (lv_at hl 0 rfl) ?_
            refine lv_iload hx hb dL_refused_93 (lv_at hl 4 rfl) ?_
            refine lv_bipush (v := 10) hx hb dL_refused_95 (by decide +kernel) ?_
            refine lv_bipush (v := 101) hx hb dL_refused_97 (by decide +kernel) ?_
            refine lv_iconst (v := 1) hx hb dL_refused_99 (by decide) ?_
            obtain ⟨x14, t14, hc14, hc⟩ := b2_some hc
            refine gc_VI (n := 4) (q0 := 0) (ci := 3) (w' := NW cy aN t14.1 t14.2.1 t14.2.2.1 t14.2.2.2) hx hb hml hown hts hK hP hD hS hA hl.1 ⟨Nat.le_refl _, Nat.le_refl _⟩ (C_X3_well l D cy aN t12.1 t12.2.1 t12.2.2.1 t12.2.2.2 y5 10 101 1 x14 t14.1 t14.2.1 t14.2.2.1 t14.2.2.2 hc14) gL_refused_X3_well rfl (by decide +kernel) rfl ⟨by decide, by decide⟩ Jn.same rfl rfl rfl (Nat.le_of_ble_eq_true rfl) dL_refused_100 (fun H locs hP hD hS => ?_)
            refine lv_iconst (v := (-1)) hx hb dL_refused_103 (by decide) ?_
            refine lv_icmp_ne (tgt := 249) hx hb dL_refused_104 (by decide) (fun c15 => ?_) (fun c15 => ?_)
            · replace hc := ite_f c15 hc
              cases hc
            · replace hc := ite_t c15 hc
              refine lv_aload_n hx hb dL_refused_107 rfl (lv_at hl 0 rfl) ?_
              refine lv_iload hx hb dL_refused_108 (lv_at hl 4 rfl) ?_
              refine lv_bipush (v := 10) hx hb dL_refused_110 (by decide +kernel) ?_
              refine lv_iconst (v := 1) hx hb dL_refused_112 (by decide) ?_
              refine lv_iconst (v := (-1)) hx hb dL_refused_113 (by decide) ?_
              obtain ⟨x16, t16, hc16, hc⟩ := b2_some hc
              refine gc_VI (n := 4) (q0 := 0) (ci := 3) (w' := NW cy aN t16.1 t16.2.1 t16.2.2.1 t16.2.2.2) hx hb hml hown hts hK hP hD hS hA hl.1 ⟨Nat.le_refl _, Nat.le_refl _⟩ (C_X3_well l D cy aN t14.1 t14.2.1 t14.2.2.1 t14.2.2.2 y5 10 1 ((-1)) x16 t16.1 t16.2.1 t16.2.2.1 t16.2.2.2 hc16) gL_refused_X3_well rfl (by decide +kernel) rfl ⟨by decide, by decide⟩ Jn.same rfl rfl rfl (Nat.le_of_ble_eq_true rfl) dL_refused_114 (fun H locs hP hD hS => ?_)
              refine lv_iconst (v := (-1)) hx hb dL_refused_117 (by decide) ?_
              refine lv_icmp_ne (tgt := 249) hx hb dL_refused_118 (by decide) (fun c17 => ?_) (fun c17 => ?_)
              · replace hc := ite_f c17 hc
                cases hc
              · replace hc := ite_t c17 hc
                refine lv_aload_n hx hb dL_refused_121 rfl (lv_at hl 0 rfl) ?_
                refine lv_iload_n hx hb dL_refused_122 rfl (lv_at hl 2 rfl) ?_
                refine lv_aload_n hx hb dL_refused_123 rfl (lv_at hl 0 rfl) ?_
                refine lv_iconst (v := 2) hx hb dL_refused_124 (by decide) ?_
                obtain ⟨x18, hc18, hc⟩ := b1_some hc
                refine gc_VI (n := 1) (q0 := 0) (ci := 3) (w' := NW cy aN t16.1 t16.2.1 t16.2.2.1 t16.2.2.2) hx hb hml hown hts hK hP hD hS hA hl.1 ⟨Nat.le_refl _, Nat.le_refl _⟩ (C_X3_count l D cy aN t16.1 t16.2.1 t16.2.2.1 t16.2.2.2 2 x18 hc18) gL_refused_X3_count rfl (by decide +kernel) rfl ⟨by decide, by decide⟩ Jn.same rfl rfl rfl (Nat.le_of_ble_eq_true rfl) dL_refused_125 (fun H locs hP hD hS => ?_)
                refine lv_iconst (v := 1) hx hb dL_refused_128 (by decide) ?_
                refine lv_iadd hx hb dL_refused_129 ?_
                refine lv_ldc (v := 60000) hx hb hown (hts (.constant RL 47 60000) (by decide +kernel)) dL_refused_130 ?_
                obtain ⟨x19, t19, hc19, hc⟩ := b2_some hc
                refine gc_VI (n := 3) (q0 := 0) (ci := 3) (w' := NW cy aN t19.1 t19.2.1 t19.2.2.1 t19.2.2.2) hx hb hml hown hts hK hP hD hS hA hl.1 ⟨Nat.le_refl _, Nat.le_refl _⟩ (C_X3_drought l D cy aN t16.1 t16.2.1 t16.2.2.1 t16.2.2.2 y3 (x18 + 1) 60000 x19 t19.1 t19.2.1 t19.2.2.1 t19.2.2.2 hc19) gL_refused_X3_drought rfl (by decide +kernel) rfl ⟨by decide, by decide⟩ Jn.same rfl rfl rfl (Nat.le_of_ble_eq_true rfl) dL_refused_132 (fun H locs hP hD hS => ?_)
                refine lv_iconst (v := (-1)) hx hb dL_refused_135 (by decide) ?_
                refine lv_icmp_ne (tgt := 249) hx hb dL_refused_136 (by decide) (fun c20 => ?_) (fun c20 => ?_)
                · replace hc := ite_f c20 hc
                  cases hc
                · replace hc := ite_t c20 hc
                  refine lv_aload_n hx hb dL_refused_139 rfl (lv_at hl 0 rfl) ?_
                  refine lv_aload_n hx hb dL_refused_140 rfl (lv_at hl 0 rfl) ?_
                  refine lv_iconst (v := 1) hx hb dL_refused_141 (by decide) ?_
                  obtain ⟨x21, hc21, hc⟩ := b1_some hc
                  refine gc_VI (n := 1) (q0 := 0) (ci := 3) (w' := NW cy aN t19.1 t19.2.1 t19.2.2.1 t19.2.2.2) hx hb hml hown hts hK hP hD hS hA hl.1 ⟨Nat.le_refl _, Nat.le_refl _⟩ (C_X3_count l D cy aN t19.1 t19.2.1 t19.2.2.1 t19.2.2.2 1 x21 hc21) gL_refused_X3_count rfl (by decide +kernel) rfl ⟨by decide, by decide⟩ Jn.same rfl rfl rfl (Nat.le_of_ble_eq_true rfl) dL_refused_142 (fun H locs hP hD hS => ?_)
                  refine lv_iconst (v := 0) hx hb dL_refused_145 (by decide) ?_
                  obtain ⟨x22, hc22, hc⟩ := b1_some hc
                  refine gc_VI (n := 2) (q0 := 0) (ci := 3) (w' := NW cy aN t19.1 t19.2.1 t19.2.2.1 t19.2.2.2) hx hb hml hown hts hK hP hD hS hA hl.1 ⟨Nat.le_refl _, Nat.le_refl _⟩ (C_X3_droughtOf l D cy aN t19.1 t19.2.1 t19.2.2.1 t19.2.2.2 x21 0 x22 hc22) gL_refused_X3_droughtOf rfl (by decide +kernel) rfl ⟨by decide, by decide⟩ Jn.same rfl rfl rfl (Nat.le_of_ble_eq_true rfl) dL_refused_146 (fun H locs hP hD hS => ?_)
                  refine lv_iconst (v := (-1)) hx hb dL_refused_149 (by decide) ?_
                  refine lv_icmp_ne (tgt := 249) hx hb dL_refused_150 (by decide) (fun c23 => ?_) (fun c23 => ?_)
                  · replace hc := ite_f c23 hc
                    cases hc
                  · replace hc := ite_t c23 hc
                    refine lv_aload_n hx hb dL_refused_153 rfl (lv_at hl 0 rfl) ?_
                    refine lv_iload_n hx hb dL_refused_154 rfl (lv_at hl 2 rfl) ?_
                    refine lv_iconst (v := 0) hx hb dL_refused_155 (by decide) ?_
                    obtain ⟨x24, hc24, hc⟩ := b1_some hc
                    refine gc_VI (n := 2) (q0 := 0) (ci := 3) (w' := NW cy aN t19.1 t19.2.1 t19.2.2.1 t19.2.2.2) hx hb hml hown hts hK hP hD hS hA hl.1 ⟨Nat.le_refl _, Nat.le_refl _⟩ (C_X3_wellOf l D cy aN t19.1 t19.2.1 t19.2.2.1 t19.2.2.2 y3 0 x24 hc24) gL_refused_X3_wellOf rfl (by decide +kernel) rfl ⟨by decide, by decide⟩ Jn.same rfl rfl rfl (Nat.le_of_ble_eq_true rfl) dL_refused_156 (fun H locs hP hD hS => ?_)
                    refine lv_iconst (v := (-1)) hx hb dL_refused_159 (by decide) ?_
                    refine lv_icmp_ne (tgt := 249) hx hb dL_refused_160 (by decide) (fun c25 => ?_) (fun c25 => ?_)
                    · replace hc := ite_f c25 hc
                      cases hc
                    · replace hc := ite_t c25 hc
                      refine lv_aload_n hx hb dL_refused_163 rfl (lv_at hl 0 rfl) ?_
                      refine lv_iload_n hx hb dL_refused_164 rfl (lv_at hl 2 rfl) ?_
                      refine lv_iconst (v := 0) hx hb dL_refused_165 (by decide) ?_
                      obtain ⟨x26, hc26, hc⟩ := b1_some hc
                      refine gc_VI (n := 2) (q0 := 0) (ci := 3) (w' := NW cy aN t19.1 t19.2.1 t19.2.2.1 t19.2.2.2) hx hb hml hown hts hK hP hD hS hA hl.1 ⟨Nat.le_refl _, Nat.le_refl _⟩ (C_X3_aboveAt l D cy aN t19.1 t19.2.1 t19.2.2.1 t19.2.2.2 y3 0 x26 hc26) gL_refused_X3_aboveAt rfl (by decide +kernel) rfl ⟨by decide, by decide⟩ Jn.same rfl rfl rfl (Nat.le_of_ble_eq_true rfl) dL_refused_166 (fun H locs hP hD hS => ?_)
                      refine lv_iconst (v := (-1)) hx hb dL_refused_169 (by decide) ?_
                      refine lv_icmp_ne (tgt := 249) hx hb dL_refused_170 (by decide) (fun c27 => ?_) (fun c27 => ?_)
                      · replace hc := ite_f c27 hc
                        cases hc
                      · replace hc := ite_t c27 hc
                        refine lv_aload_n hx hb dL_refused_173 rfl (lv_at hl 0 rfl) ?_
                        refine lv_iload_n hx hb dL_refused_174 rfl (lv_at hl 2 rfl) ?_
                        refine lv_iconst (v := 1) hx hb dL_refused_175 (by decide) ?_
                        obtain ⟨x28, t28, hc28, hc⟩ := b2_some hc
                        refine gc_VI (n := 2) (q0 := 0) (ci := 3) (w' := NW cy aN t28.1 t28.2.1 t28.2.2.1 t28.2.2.2) hx hb hml hown hts hK hP hD hS hA hl.1 ⟨Nat.le_refl _, Nat.le_refl _⟩ (C_X3_draw l D cy aN t19.1 t19.2.1 t19.2.2.1 t19.2.2.2 y3 1 x28 t28.1 t28.2.1 t28.2.2.1 t28.2.2.2 hc28) gL_refused_X3_draw rfl (by decide +kernel) rfl ⟨by decide, by decide⟩ Jn.same rfl rfl rfl (Nat.le_of_ble_eq_true rfl) dL_refused_176 (fun H locs hP hD hS => ?_)
                        refine lv_iconst (v := (-1)) hx hb dL_refused_179 (by decide) ?_
                        refine lv_icmp_ne (tgt := 249) hx hb dL_refused_180 (by decide) (fun c29 => ?_) (fun c29 => ?_)
                        · replace hc := ite_f c29 hc
                          cases hc
                        · replace hc := ite_t c29 hc
                          refine lv_aload_n hx hb dL_refused_183 rfl (lv_at hl 0 rfl) ?_
                          refine lv_iload_n hx hb dL_refused_184 rfl (lv_at hl 2 rfl) ?_
                          refine lv_iconst (v := 1) hx hb dL_refused_185 (by decide) ?_
                          obtain ⟨x30, t30, hc30, hc⟩ := b2_some hc
                          refine gc_VI (n := 2) (q0 := 0) (ci := 3) (w' := NW cy aN t30.1 t30.2.1 t30.2.2.1 t30.2.2.2) hx hb hml hown hts hK hP hD hS hA hl.1 ⟨Nat.le_refl _, Nat.le_refl _⟩ (C_X3_request l D cy aN t28.1 t28.2.1 t28.2.2.1 t28.2.2.2 y3 1 x30 t30.1 t30.2.1 t30.2.2.1 t30.2.2.2 hc30) gL_refused_X3_request rfl (by decide +kernel) rfl ⟨by decide, by decide⟩ Jn.same rfl rfl rfl (Nat.le_of_ble_eq_true rfl) dL_refused_186 (fun H locs hP hD hS => ?_)
                          refine lv_iconst (v := (-1)) hx hb dL_refused_189 (by decide) ?_
                          refine lv_icmp_ne (tgt := 249) hx hb dL_refused_190 (by decide) (fun c31 => ?_) (fun c31 => ?_)
                          · replace hc := ite_f c31 hc
                            cases hc
                          · replace hc := ite_t c31 hc
                            refine lv_aload_n hx hb dL_refused_193 rfl (lv_at hl 0 rfl) ?_
                            refine lv_iconst (v := 0) hx hb dL_refused_194 (by decide) ?_
                            obtain ⟨x32, t32, hc32, hc⟩ := b2_some hc
                            refine gc_VI (n := 1) (q0 := 0) (ci := 3) (w' := NW cy aN t32.1 t32.2.1 t32.2.2.1 t32.2.2.2) hx hb hml hown hts hK hP hD hS hA hl.1 ⟨Nat.le_refl _, Nat.le_refl _⟩ (C_X3_cancel l D cy aN t30.1 t30.2.1 t30.2.2.1 t30.2.2.2 0 x32 t32.1 t32.2.1 t32.2.2.1 t32.2.2.2 hc32) gL_refused_X3_cancel rfl (by decide +kernel) rfl ⟨by decide, by decide⟩ Jn.same rfl rfl rfl (Nat.le_of_ble_eq_true rfl) dL_refused_195 (fun H locs hP hD hS => ?_)
                            refine lv_iconst (v := (-1)) hx hb dL_refused_198 (by decide) ?_
                            refine lv_icmp_ne (tgt := 249) hx hb dL_refused_199 (by decide) (fun c33 => ?_) (fun c33 => ?_)
                            · replace hc := ite_f c33 hc
                              cases hc
                            · replace hc := ite_t c33 hc
                              refine lv_aload_n hx hb dL_refused_202 rfl (lv_at hl 0 rfl) ?_
                              refine lv_aload_n hx hb dL_refused_203 rfl (lv_at hl 0 rfl) ?_
                              refine lv_bipush (v := 10) hx hb dL_refused_204 (by decide +kernel) ?_
                              obtain ⟨x34, hc34, hc⟩ := b1_some hc
                              refine gc_VI (n := 1) (q0 := 0) (ci := 3) (w' := NW cy aN t32.1 t32.2.1 t32.2.2.1 t32.2.2.2) hx hb hml hown hts hK hP hD hS hA hl.1 ⟨Nat.le_refl _, Nat.le_refl _⟩ (C_X3_count l D cy aN t32.1 t32.2.1 t32.2.2.1 t32.2.2.2 10 x34 hc34) gL_refused_X3_count rfl (by decide +kernel) rfl ⟨by decide, by decide⟩ Jn.same rfl rfl rfl (Nat.le_of_ble_eq_true rfl) dL_refused_206 (fun H locs hP hD hS => ?_)
                              refine lv_iconst (v := 1) hx hb dL_refused_209 (by decide) ?_
                              refine lv_iadd hx hb dL_refused_210 ?_
                              obtain ⟨x35, t35, hc35, hc⟩ := b2_some hc
                              refine gc_VI (n := 1) (q0 := 0) (ci := 3) (w' := NW cy aN t35.1 t35.2.1 t35.2.2.1 t35.2.2.2) hx hb hml hown hts hK hP hD hS hA hl.1 ⟨Nat.le_refl _, Nat.le_refl _⟩ (C_X3_cancel l D cy aN t32.1 t32.2.1 t32.2.2.1 t32.2.2.2 (x34 + 1) x35 t35.1 t35.2.1 t35.2.2.1 t35.2.2.2 hc35) gL_refused_X3_cancel rfl (by decide +kernel) rfl ⟨by decide, by decide⟩ Jn.same rfl rfl rfl (Nat.le_of_ble_eq_true rfl) dL_refused_211 (fun H locs hP hD hS => ?_)
                              refine lv_iconst (v := (-1)) hx hb dL_refused_214 (by decide) ?_
                              refine lv_icmp_ne (tgt := 249) hx hb dL_refused_215 (by decide) (fun c36 => ?_) (fun c36 => ?_)
                              · replace hc := ite_f c36 hc
                                cases hc
                              · replace hc := ite_t c36 hc
                                refine lv_aload_n hx hb dL_refused_218 rfl (lv_at hl 0 rfl) ?_
                                refine lv_aload_n hx hb dL_refused_219 rfl (lv_at hl 0 rfl) ?_
                                refine lv_bipush (v := 10) hx hb dL_refused_220 (by decide +kernel) ?_
                                obtain ⟨x37, hc37, hc⟩ := b1_some hc
                                refine gc_VI (n := 1) (q0 := 0) (ci := 3) (w' := NW cy aN t35.1 t35.2.1 t35.2.2.1 t35.2.2.2) hx hb hml hown hts hK hP hD hS hA hl.1 ⟨Nat.le_refl _, Nat.le_refl _⟩ (C_X3_count l D cy aN t35.1 t35.2.1 t35.2.2.1 t35.2.2.2 10 x37 hc37) gL_refused_X3_count rfl (by decide +kernel) rfl ⟨by decide, by decide⟩ Jn.same rfl rfl rfl (Nat.le_of_ble_eq_true rfl) dL_refused_222 (fun H locs hP hD hS => ?_)
                                refine lv_iconst (v := 1) hx hb dL_refused_225 (by decide) ?_
                                refine lv_iadd hx hb dL_refused_226 ?_
                                refine lv_iconst (v := 0) hx hb dL_refused_227 (by decide) ?_
                                obtain ⟨x38, hc38, hc⟩ := b1_some hc
                                refine gc_VI (n := 2) (q0 := 0) (ci := 3) (w' := NW cy aN t35.1 t35.2.1 t35.2.2.1 t35.2.2.2) hx hb hml hown hts hK hP hD hS hA hl.1 ⟨Nat.le_refl _, Nat.le_refl _⟩ (C_X3_requestAt l D cy aN t35.1 t35.2.1 t35.2.2.1 t35.2.2.2 (x37 + 1) 0 x38 hc38) gL_refused_X3_requestAt rfl (by decide +kernel) rfl ⟨by decide, by decide⟩ Jn.same rfl rfl rfl (Nat.le_of_ble_eq_true rfl) dL_refused_228 (fun H locs hP hD hS => ?_)
                                refine lv_iconst (v := (-1)) hx hb dL_refused_231 (by decide) ?_
                                refine lv_icmp_ne (tgt := 249) hx hb dL_refused_232 (by decide) (fun c39 => ?_) (fun c39 => ?_)
                                · replace hc := ite_f c39 hc
                                  cases hc
                                · replace hc := ite_t c39 hc
                                  refine lv_aload_n hx hb dL_refused_235 rfl (lv_at hl 0 rfl) ?_
                                  refine lv_iconst (v := 0) hx hb dL_refused_236 (by decide) ?_
                                  refine lv_iconst (v := 0) hx hb dL_refused_237 (by decide) ?_
                                  obtain ⟨x40, hc40, hc⟩ := b1_some hc
                                  refine gc_VI (n := 2) (q0 := 0) (ci := 3) (w' := NW cy aN t35.1 t35.2.1 t35.2.2.1 t35.2.2.2) hx hb hml hown hts hK hP hD hS hA hl.1 ⟨Nat.le_refl _, Nat.le_refl _⟩ (C_X3_requestAt l D cy aN t35.1 t35.2.1 t35.2.2.1 t35.2.2.2 0 0 x40 hc40) gL_refused_X3_requestAt rfl (by decide +kernel) rfl ⟨by decide, by decide⟩ Jn.same rfl rfl rfl (Nat.le_of_ble_eq_true rfl) dL_refused_238 (fun H locs hP hD hS => ?_)
                                  refine lv_iconst (v := (-1)) hx hb dL_refused_241 (by decide) ?_
                                  refine lv_icmp_ne (tgt := 249) hx hb dL_refused_242 (by decide) (fun c41 => ?_) (fun c41 => ?_)
                                  · replace hc := ite_f c41 hc
                                    cases hc
                                  · replace hc := ite_t c41 hc
                                    refine lv_iconst (v := 1) hx hb dL_refused_245 (by decide) ?_
                                    refine lv_goto (tgt := 250) hx hb dL_refused_246 (by decide) ?_
                                    refine lv_istore (lv' := [(6, .int 1), (0, .ref (aN 0 0)), (1, .long y1), (3, .int y3), (4, .int y4), (5, .int y5)]) hx hb dL_refused_250 hl (by decide) rfl (fun ls hl => ?_)
                                    refine lv_iload hx hb dL_refused_252 (lv_at hl 0 rfl) ?_
                                    refine lv_if_eq (tgt := 411) hx hb dL_refused_254 (by decide) (fun c9 => absurd c9 (by decide)) (fun _ => ?_)
                                    exact J257 y1 y3 y4 t35.1 t35.2.1 t35.2.2.1 t35.2.2.2 H locs ls hc hP hD hS (lv_sub hl [1, 2, 3, 4] rfl)
  have J28 : ∀ (y1 : Int64) (y3 : Int32) (y4 : Int32) (z0 : Int32) (v1 : FV) (v2 : FV) (G : (Nat → FV)) (v3 : FV) (H : Heap) (locs : List Loc) (ls : Array Slot), f_L_refused_J28 y1 y3 y4 z0 v1 v2 G v3 = some (r, (v1', v2', G', v3')) → va_P D vwCl (NW cy aN v1 v2 G v3) H → va_D A (NW cy aN v1 v2 G v3) → va_S A s.heap H locs → lv_has ls 8 [(0, .ref (aN 0 0)), (1, .long y1), (3, .int y3), (4, .int y4)] → W p l e (RM 8 189) s m args below meth c H locs 0 0 Q (F0 m 28 ls [.int z0]) := by
    intro y1 y3 y4 z0 v1 v2 G v3 H locs ls hc hP hD hS hl
    refine lv_istore (lv' := [(5, .int z0), (0, .ref (aN 0 0)), (1, .long y1), (3, .int y3), (4, .int y4)]) hx hb dL_refused_28 hl (by decide) rfl (fun ls hl => ?_)
    refine lv_aload_n hx hb dL_refused_30 rfl (lv_at hl 1 rfl) ?_
    refine lv_iload_n hx hb dL_refused_31 rfl (lv_at hl 3 rfl) ?_
    refine lv_if_ne (tgt := 39) hx hb dL_refused_32 (by decide) (fun c5 => ?_) (fun c5 => ?_)
    · replace hc := ite_f c5 hc
      refine lv_iconst (v := (-1)) hx hb dL_refused_39 (by decide) ?_
      exact J40 y1 y3 y4 z0 ((-1)) v1 v2 G v3 H locs ls hc hP hD hS (lv_sub hl [1, 2, 3, 4, 0] rfl)
    · replace hc := ite_t c5 hc
      refine lv_iconst (v := 0) hx hb dL_refused_35 (by decide) ?_
      refine lv_goto (tgt := 40) hx hb dL_refused_36 (by decide) ?_
      exact J40 y1 y3 y4 z0 0 v1 v2 G v3 H locs ls hc hP hD hS (lv_sub hl [1, 2, 3, 4, 0] rfl)
  obtain ⟨H, hHe⟩ : ∃ H : Heap, H = s.heap := ⟨_, rfl⟩
  obtain ⟨locs, hLe⟩ : ∃ x : List Loc, x = [] := ⟨_, rfl⟩
  have hP : va_P D vwCl (NW cy aN v1 v2 G v3) H := by rw [hHe]; exact hP
  have hS : va_S A s.heap H locs := by rw [hHe, hLe]; exact hS
  have goal0 : W p l e (RM 8 189) s m args below meth c H locs 0 0 Q (F0 m 0 ls []) := by
    refine lv_aload_n hx hb dL_refused_0 rfl (lv_at hl 0 rfl) ?_
    obtain ⟨x1, hc1, hc⟩ := b1_some hc
    refine gc_SL (n := 1) (w' := NW cy aN v1 v2 G v3) hx hb hml hown hts hK hP hD hS hA hl.1 ⟨Nat.le_refl _, Nat.le_refl _⟩ (C_L_print l D cy aN v1 v2 G v3 x1 hc1) gL_refused_L_print rfl (by decide +kernel) rfl ⟨by decide, by decide⟩ Jn.same rfl (Nat.le_of_ble_eq_true rfl) dL_refused_1 (fun H locs hP hD hS => ?_)
    refine lv_lstore_n (lv' := [(1, .long x1), (0, .ref (aN 0 0))]) hx hb dL_refused_4 rfl hl (by decide) rfl (fun ls hl => ?_)
    refine lv_aload_n hx hb dL_refused_5 rfl (lv_at hl 1 rfl) ?_
    refine lv_iconst (v := 0) hx hb dL_refused_6 (by decide) ?_
    obtain ⟨x2, hc2, hc⟩ := b1_some hc
    refine gc_VI (n := 1) (q0 := 0) (ci := 3) (w' := NW cy aN v1 v2 G v3) hx hb hml hown hts hK hP hD hS hA hl.1 ⟨Nat.le_refl _, Nat.le_refl _⟩ (C_X3_count l D cy aN v1 v2 G v3 0 x2 hc2) gL_refused_X3_count rfl (by decide +kernel) rfl ⟨by decide, by decide⟩ Jn.same rfl rfl rfl (Nat.le_of_ble_eq_true rfl) dL_refused_7 (fun H locs hP hD hS => ?_)
    refine lv_istore_n (lv' := [(3, .int x2), (1, .long x1), (0, .ref (aN 0 0))]) hx hb dL_refused_10 rfl hl (by decide) rfl (fun ls hl => ?_)
    refine lv_aload_n hx hb dL_refused_11 rfl (lv_at hl 2 rfl) ?_
    refine lv_bipush (v := 13) hx hb dL_refused_12 (by decide +kernel) ?_
    obtain ⟨x3, hc3, hc⟩ := b1_some hc
    refine gc_VI (n := 1) (q0 := 0) (ci := 3) (w' := NW cy aN v1 v2 G v3) hx hb hml hown hts hK hP hD hS hA hl.1 ⟨Nat.le_refl _, Nat.le_refl _⟩ (C_X3_count l D cy aN v1 v2 G v3 13 x3 hc3) gL_refused_X3_count rfl (by decide +kernel) rfl ⟨by decide, by decide⟩ Jn.same rfl rfl rfl (Nat.le_of_ble_eq_true rfl) dL_refused_14 (fun H locs hP hD hS => ?_)
    refine lv_istore (lv' := [(4, .int x3), (3, .int x2), (1, .long x1), (0, .ref (aN 0 0))]) hx hb dL_refused_17 hl (by decide) rfl (fun ls hl => ?_)
    refine lv_iload_n hx hb dL_refused_19 rfl (lv_at hl 1 rfl) ?_
    refine lv_if_ne (tgt := 27) hx hb dL_refused_20 (by decide) (fun c4 => ?_) (fun c4 => ?_)
    · replace hc := ite_f c4 hc
      refine lv_iconst (v := 0) hx hb dL_refused_27 (by decide) ?_
      exact J28 x1 x2 x3 0 v1 v2 G v3 H locs ls hc hP hD hS (lv_sub hl [3, 2, 1, 0] rfl)
    · replace hc := ite_t c4 hc
      refine lv_iconst (v := (-1)) hx hb dL_refused_23 (by decide) ?_
      refine lv_goto (tgt := 28) hx hb dL_refused_24 (by decide) ?_
      exact J28 x1 x2 x3 ((-1)) v1 v2 G v3 H locs ls hc hP hD hS (lv_sub hl [3, 2, 1, 0] rfl)
  rw [hHe, hLe] at goal0
  exact goal0
