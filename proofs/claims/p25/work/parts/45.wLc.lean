set_option maxHeartbeats 40000000 in
set_option maxRecDepth 100000 in
theorem C_L_addsUp (l : Launch) (D : va_G) (cy : Nat → ClassId) (aN : Nat → Nat → Nat) (v1 : FV) (v2 : FV) (G : (Nat → FV)) (v3 : FV) (r : Int32) (hc : f_L_addsUp v1 v2 G v3 = some r) : ConI l yL_addsUp wsL_addsUp 3 69 D cy (fun (u : FV × FV × (Nat → FV) × FV) => NW cy aN u.1 u.2.1 u.2.2.1 u.2.2.2) [.ref (aN 0 0)] ((v1, v2, G, v3)) ((v1, v2, G, v3)) r := by
  refine bodyI (cc := cL_addsUp) (maxL := 13) (ty := .boolean) (by decide +kernel) rfl (Nat.le_of_ble_eq_true rfl) ?_
  intro p e s m args below meth c A Q hx hb hml hts hown hK hP hD hA hS hend ls hl
  have hown : s.vm.findClass RL = some m.cls := hown
  have hP : va_P D vwCl (NW cy aN v1 v2 G v3) s.heap := hP
  have hD : va_D A (NW cy aN v1 v2 G v3) := hD
  have hl : lv_has ls 13 [(0, .ref (aN 0 0))] := hl
  have hend : ∀ (H : Heap) (locs : List Loc) (pc : Nat) (ls : Array Slot) (v : Int32), v = r → narrow .boolean (.int v) = .int v → va_P D vwCl (NW cy aN v1 v2 G v3) H → va_D A (NW cy aN v1 v2 G v3) → va_S A s.heap H locs → decode cL_addsUp pc = .ok (.ireturn, 1) → W p l e (RM 3 69) s m args below meth c H locs 0 0 Q (F0 m pc ls [.int v]) := fun H locs pc ls v h1 h3 h4 h5 h6 h7 => hend H locs pc ls v ((v1, v2, G, v3)) h1 rfl h3 h4 h5 h6 h7
  have J400 : ∀ (y1 : Int32) (y2 : Int32) (y3 : Int32) (y4 : Int32) (y5 : Int32) (y6 : Int32) (y7 : Int32) (H : Heap) (locs : List Loc) (ls : Array Slot), f_L_addsUp_J400 v1 v2 G v3 y1 y2 y3 y4 y5 y6 y7 = some r → va_P D vwCl (NW cy aN v1 v2 G v3) H → va_D A (NW cy aN v1 v2 G v3) → va_S A s.heap H locs → lv_has ls 13 [(0, .ref (aN 0 0)), (1, .int y1), (2, .int y2), (3, .int y3), (4, .int y4), (5, .int y5), (6, .int y6), (7, .int y7), (8, .int 1)] → W p l e (RM 3 69) s m args below meth c H locs 0 0 Q (F0 m 400 ls []) := by
    intro y1 y2 y3 y4 y5 y6 y7 H locs ls hc hP hD hS hl
    refine lv_iload hx hb dL_addsUp_400 (lv_at hl 8 rfl) ?_
    refine lv_if_eq (tgt := 538) hx hb dL_addsUp_402 (by decide) (fun c9 => absurd c9 (by decide)) (fun _ => ?_)
    refine lv_iload_n hx hb dL_addsUp_405 rfl (lv_at hl 1 rfl) ?_
    refine lv_aload_n hx hb dL_addsUp_406 rfl (lv_at hl 0 rfl) ?_
    refine lv_iconst (v := 3) hx hb dL_addsUp_407 (by decide) ?_
    obtain ⟨x5, hc5, hc⟩ := b1_some hc
    refine gc_VI (n := 1) (q0 := 0) (ci := 3) (w' := NW cy aN v1 v2 G v3) hx hb hml hown hts hK hP hD hS hA hl.1 ⟨Nat.le_refl _, Nat.le_refl _⟩ (C_X3_count l D cy aN v1 v2 G v3 3 x5 hc5) gL_addsUp_X3_count rfl (by decide +kernel) rfl ⟨by decide, by decide⟩ Jn.same rfl rfl rfl (Nat.le_of_ble_eq_true rfl) dL_addsUp_408 (fun H locs hP hD hS => ?_)
    refine lv_icmp_ne (tgt := 538) hx hb dL_addsUp_411 (by decide) (fun c6 => ?_) (fun c6 => ?_)
    · replace hc := ite_f c6 hc
      cases hc
    · replace hc := ite_t c6 hc
      refine lv_iload_n hx hb dL_addsUp_414 rfl (lv_at hl 2 rfl) ?_
      refine lv_aload_n hx hb dL_addsUp_415 rfl (lv_at hl 0 rfl) ?_
      refine lv_iconst (v := 4) hx hb dL_addsUp_416 (by decide) ?_
      obtain ⟨x7, hc7, hc⟩ := b1_some hc
      refine gc_VI (n := 1) (q0 := 0) (ci := 3) (w' := NW cy aN v1 v2 G v3) hx hb hml hown hts hK hP hD hS hA hl.1 ⟨Nat.le_refl _, Nat.le_refl _⟩ (C_X3_count l D cy aN v1 v2 G v3 4 x7 hc7) gL_addsUp_X3_count rfl (by decide +kernel) rfl ⟨by decide, by decide⟩ Jn.same rfl rfl rfl (Nat.le_of_ble_eq_true rfl) dL_addsUp_417 (fun H locs hP hD hS => ?_)
      refine lv_icmp_ne (tgt := 538) hx hb dL_addsUp_420 (by decide) (fun c8 => ?_) (fun c8 => ?_)
      · replace hc := ite_f c8 hc
        cases hc
      · replace hc := ite_t c8 hc
        refine lv_iload_n hx hb dL_addsUp_423 rfl (lv_at hl 2 rfl) ?_
        refine lv_iload_n hx hb dL_addsUp_424 rfl (lv_at hl 1 rfl) ?_
        refine lv_aload_n hx hb dL_addsUp_425 rfl (lv_at hl 0 rfl) ?_
        refine lv_bipush (v := 6) hx hb dL_addsUp_426 (by decide +kernel) ?_
        obtain ⟨x9, hc9, hc⟩ := b1_some hc
        refine gc_VI (n := 1) (q0 := 0) (ci := 3) (w' := NW cy aN v1 v2 G v3) hx hb hml hown hts hK hP hD hS hA hl.1 ⟨Nat.le_refl _, Nat.le_refl _⟩ (C_X3_count l D cy aN v1 v2 G v3 6 x9 hc9) gL_addsUp_X3_count rfl (by decide +kernel) rfl ⟨by decide, by decide⟩ Jn.same rfl rfl rfl (Nat.le_of_ble_eq_true rfl) dL_addsUp_428 (fun H locs hP hD hS => ?_)
        refine lv_iadd hx hb dL_addsUp_431 ?_
        refine lv_icmp_ne (tgt := 538) hx hb dL_addsUp_432 (by decide) (fun c10 => ?_) (fun c10 => ?_)
        · replace hc := ite_f c10 hc
          cases hc
        · replace hc := ite_t c10 hc
          refine lv_iload_n hx hb dL_addsUp_435 rfl (lv_at hl 3 rfl) ?_
          refine lv_aload_n hx hb dL_addsUp_436 rfl (lv_at hl 0 rfl) ?_
          refine lv_iconst (v := 5) hx hb dL_addsUp_437 (by decide) ?_
          obtain ⟨x11, hc11, hc⟩ := b1_some hc
          refine gc_VI (n := 1) (q0 := 0) (ci := 3) (w' := NW cy aN v1 v2 G v3) hx hb hml hown hts hK hP hD hS hA hl.1 ⟨Nat.le_refl _, Nat.le_refl _⟩ (C_X3_count l D cy aN v1 v2 G v3 5 x11 hc11) gL_addsUp_X3_count rfl (by decide +kernel) rfl ⟨by decide, by decide⟩ Jn.same rfl rfl rfl (Nat.le_of_ble_eq_true rfl) dL_addsUp_438 (fun H locs hP hD hS => ?_)
          refine lv_icmp_ne (tgt := 538) hx hb dL_addsUp_441 (by decide) (fun c12 => ?_) (fun c12 => ?_)
          · replace hc := ite_f c12 hc
            cases hc
          · replace hc := ite_t c12 hc
            refine lv_iload hx hb dL_addsUp_444 (lv_at hl 4 rfl) ?_
            refine lv_aload_n hx hb dL_addsUp_446 rfl (lv_at hl 0 rfl) ?_
            refine lv_bipush (v := 6) hx hb dL_addsUp_447 (by decide +kernel) ?_
            obtain ⟨x13, hc13, hc⟩ := b1_some hc
            refine gc_VI (n := 1) (q0 := 0) (ci := 3) (w' := NW cy aN v1 v2 G v3) hx hb hml hown hts hK hP hD hS hA hl.1 ⟨Nat.le_refl _, Nat.le_refl _⟩ (C_X3_count l D cy aN v1 v2 G v3 6 x13 hc13) gL_addsUp_X3_count rfl (by decide +kernel) rfl ⟨by decide, by decide⟩ Jn.same rfl rfl rfl (Nat.le_of_ble_eq_true rfl) dL_addsUp_449 (fun H locs hP hD hS => ?_)
            refine lv_icmp_ne (tgt := 538) hx hb dL_addsUp_452 (by decide) (fun c14 => ?_) (fun c14 => ?_)
            · replace hc := ite_f c14 hc
              cases hc
            · replace hc := ite_t c14 hc
              refine lv_iload hx hb dL_addsUp_455 (lv_at hl 5 rfl) ?_
              refine lv_aload_n hx hb dL_addsUp_457 rfl (lv_at hl 0 rfl) ?_
              refine lv_bipush (v := 7) hx hb dL_addsUp_458 (by decide +kernel) ?_
              obtain ⟨x15, hc15, hc⟩ := b1_some hc
              refine gc_VI (n := 1) (q0 := 0) (ci := 3) (w' := NW cy aN v1 v2 G v3) hx hb hml hown hts hK hP hD hS hA hl.1 ⟨Nat.le_refl _, Nat.le_refl _⟩ (C_X3_count l D cy aN v1 v2 G v3 7 x15 hc15) gL_addsUp_X3_count rfl (by decide +kernel) rfl ⟨by decide, by decide⟩ Jn.same rfl rfl rfl (Nat.le_of_ble_eq_true rfl) dL_addsUp_460 (fun H locs hP hD hS => ?_)
              refine lv_icmp_ne (tgt := 538) hx hb dL_addsUp_463 (by decide) (fun c16 => ?_) (fun c16 => ?_)
              · replace hc := ite_f c16 hc
                cases hc
              · replace hc := ite_t c16 hc
                refine lv_iload hx hb dL_addsUp_466 (lv_at hl 6 rfl) ?_
                refine lv_aload_n hx hb dL_addsUp_468 rfl (lv_at hl 0 rfl) ?_
                refine lv_bipush (v := 8) hx hb dL_addsUp_469 (by decide +kernel) ?_
                obtain ⟨x17, hc17, hc⟩ := b1_some hc
                refine gc_VI (n := 1) (q0 := 0) (ci := 3) (w' := NW cy aN v1 v2 G v3) hx hb hml hown hts hK hP hD hS hA hl.1 ⟨Nat.le_refl _, Nat.le_refl _⟩ (C_X3_count l D cy aN v1 v2 G v3 8 x17 hc17) gL_addsUp_X3_count rfl (by decide +kernel) rfl ⟨by decide, by decide⟩ Jn.same rfl rfl rfl (Nat.le_of_ble_eq_true rfl) dL_addsUp_471 (fun H locs hP hD hS => ?_)
                refine lv_icmp_ne (tgt := 538) hx hb dL_addsUp_474 (by decide) (fun c18 => ?_) (fun c18 => ?_)
                · replace hc := ite_f c18 hc
                  cases hc
                · replace hc := ite_t c18 hc
                  refine lv_iload hx hb dL_addsUp_477 (lv_at hl 7 rfl) ?_
                  refine lv_aload_n hx hb dL_addsUp_479 rfl (lv_at hl 0 rfl) ?_
                  refine lv_bipush (v := 9) hx hb dL_addsUp_480 (by decide +kernel) ?_
                  obtain ⟨x19, hc19, hc⟩ := b1_some hc
                  refine gc_VI (n := 1) (q0 := 0) (ci := 3) (w' := NW cy aN v1 v2 G v3) hx hb hml hown hts hK hP hD hS hA hl.1 ⟨Nat.le_refl _, Nat.le_refl _⟩ (C_X3_count l D cy aN v1 v2 G v3 9 x19 hc19) gL_addsUp_X3_count rfl (by decide +kernel) rfl ⟨by decide, by decide⟩ Jn.same rfl rfl rfl (Nat.le_of_ble_eq_true rfl) dL_addsUp_482 (fun H locs hP hD hS => ?_)
                  refine lv_icmp_ne (tgt := 538) hx hb dL_addsUp_485 (by decide) (fun c20 => ?_) (fun c20 => ?_)
                  · replace hc := ite_f c20 hc
                    cases hc
                  · replace hc := ite_t c20 hc
                    refine lv_iload hx hb dL_addsUp_488 (lv_at hl 5 rfl) ?_
                    refine lv_iload hx hb dL_addsUp_490 (lv_at hl 6 rfl) ?_
                    refine lv_isub hx hb dL_addsUp_492 ?_
                    refine lv_iload hx hb dL_addsUp_493 (lv_at hl 7 rfl) ?_
                    refine lv_icmp_ne (tgt := 538) hx hb dL_addsUp_495 (by decide) (fun c21 => ?_) (fun c21 => ?_)
                    · replace hc := ite_f c21 hc
                      cases hc
                    · replace hc := ite_t c21 hc
                      refine lv_aload_n hx hb dL_addsUp_498 rfl (lv_at hl 0 rfl) ?_
                      refine lv_bipush (v := 10) hx hb dL_addsUp_499 (by decide +kernel) ?_
                      obtain ⟨x22, hc22, hc⟩ := b1_some hc
                      refine gc_VI (n := 1) (q0 := 0) (ci := 3) (w' := NW cy aN v1 v2 G v3) hx hb hml hown hts hK hP hD hS hA hl.1 ⟨Nat.le_refl _, Nat.le_refl _⟩ (C_X3_count l D cy aN v1 v2 G v3 10 x22 hc22) gL_addsUp_X3_count rfl (by decide +kernel) rfl ⟨by decide, by decide⟩ Jn.same rfl rfl rfl (Nat.le_of_ble_eq_true rfl) dL_addsUp_501 (fun H locs hP hD hS => ?_)
                      refine lv_bipush (v := 8) hx hb dL_addsUp_504 (by decide +kernel) ?_
                      refine lv_icmp_gt (tgt := 538) hx hb dL_addsUp_506 (by decide) (fun c23 => ?_) (fun c23 => ?_)
                      · replace hc := ite_t c23 hc
                        cases hc
                      · replace hc := ite_f c23 hc
                        refine lv_aload_n hx hb dL_addsUp_509 rfl (lv_at hl 0 rfl) ?_
                        refine lv_bipush (v := 12) hx hb dL_addsUp_510 (by decide +kernel) ?_
                        obtain ⟨x24, hc24, hc⟩ := b1_some hc
                        refine gc_VI (n := 1) (q0 := 0) (ci := 3) (w' := NW cy aN v1 v2 G v3) hx hb hml hown hts hK hP hD hS hA hl.1 ⟨Nat.le_refl _, Nat.le_refl _⟩ (C_X3_count l D cy aN v1 v2 G v3 12 x24 hc24) gL_addsUp_X3_count rfl (by decide +kernel) rfl ⟨by decide, by decide⟩ Jn.same rfl rfl rfl (Nat.le_of_ble_eq_true rfl) dL_addsUp_512 (fun H locs hP hD hS => ?_)
                        refine lv_iconst (v := 1) hx hb dL_addsUp_515 (by decide) ?_
                        refine lv_icmp_lt (tgt := 538) hx hb dL_addsUp_516 (by decide) (fun c25 => ?_) (fun c25 => ?_)
                        · replace hc := ite_t c25 hc
                          cases hc
                        · replace hc := ite_f c25 hc
                          refine lv_aload_n hx hb dL_addsUp_519 rfl (lv_at hl 0 rfl) ?_
                          refine lv_bipush (v := 12) hx hb dL_addsUp_520 (by decide +kernel) ?_
                          obtain ⟨x26, hc26, hc⟩ := b1_some hc
                          refine gc_VI (n := 1) (q0 := 0) (ci := 3) (w' := NW cy aN v1 v2 G v3) hx hb hml hown hts hK hP hD hS hA hl.1 ⟨Nat.le_refl _, Nat.le_refl _⟩ (C_X3_count l D cy aN v1 v2 G v3 12 x26 hc26) gL_addsUp_X3_count rfl (by decide +kernel) rfl ⟨by decide, by decide⟩ Jn.same rfl rfl rfl (Nat.le_of_ble_eq_true rfl) dL_addsUp_522 (fun H locs hP hD hS => ?_)
                          refine lv_aload_n hx hb dL_addsUp_525 rfl (lv_at hl 0 rfl) ?_
                          refine lv_bipush (v := 20) hx hb dL_addsUp_526 (by decide +kernel) ?_
                          obtain ⟨x27, hc27, hc⟩ := b1_some hc
                          refine gc_VI (n := 1) (q0 := 0) (ci := 3) (w' := NW cy aN v1 v2 G v3) hx hb hml hown hts hK hP hD hS hA hl.1 ⟨Nat.le_refl _, Nat.le_refl _⟩ (C_X3_count l D cy aN v1 v2 G v3 20 x27 hc27) gL_addsUp_X3_count rfl (by decide +kernel) rfl ⟨by decide, by decide⟩ Jn.same rfl rfl rfl (Nat.le_of_ble_eq_true rfl) dL_addsUp_528 (fun H locs hP hD hS => ?_)
                          refine lv_icmp_gt (tgt := 538) hx hb dL_addsUp_531 (by decide) (fun c28 => ?_) (fun c28 => ?_)
                          · replace hc := ite_t c28 hc
                            cases hc
                          · replace hc := ite_f c28 hc
                            refine lv_iconst (v := 1) hx hb dL_addsUp_534 (by decide) ?_
                            refine lv_goto (tgt := 539) hx hb dL_addsUp_535 (by decide) ?_
                            exact hend H locs _ _ _ (some_one hc) rfl hP hD hS dL_addsUp_539
  have J387 : ∀ (k331 : Int32 → Int32 → Int32 → Int32 → Int32 → Int32 → Int32 → Int32 → Option (Int32)) (hk331 : ∀ (y1 : Int32) (y2 : Int32) (y3 : Int32) (y4 : Int32) (y5 : Int32) (y6 : Int32) (y7 : Int32) (y9 : Int32) (H : Heap) (locs : List Loc) (ls : Array Slot), k331 y1 y2 y3 y4 y5 y6 y7 y9 = some r → va_P D vwCl (NW cy aN v1 v2 G v3) H → va_D A (NW cy aN v1 v2 G v3) → va_S A s.heap H locs → lv_has ls 13 [(0, .ref (aN 0 0)), (1, .int y1), (2, .int y2), (3, .int y3), (4, .int y4), (5, .int y5), (6, .int y6), (7, .int y7), (8, .int 1), (9, .int y9)] → W p l e (RM 3 69) s m args below meth c H locs 0 0 Q (F0 m 331 ls [])), ∀ (y1 : Int32) (y2 : Int32) (y3 : Int32) (y4 : Int32) (y5 : Int32) (y6 : Int32) (y7 : Int32) (y9 : Int32) (H : Heap) (locs : List Loc) (ls : Array Slot), f_L_addsUp_J387 v1 v2 G v3 k331 y1 y2 y3 y4 y5 y6 y7 y9 = some r → va_P D vwCl (NW cy aN v1 v2 G v3) H → va_D A (NW cy aN v1 v2 G v3) → va_S A s.heap H locs → lv_has ls 13 [(0, .ref (aN 0 0)), (1, .int y1), (2, .int y2), (3, .int y3), (4, .int y4), (5, .int y5), (6, .int y6), (7, .int y7), (9, .int y9)] → W p l e (RM 3 69) s m args below meth c H locs 0 0 Q (F0 m 387 ls []) := by
    intro k331 hk331 y1 y2 y3 y4 y5 y6 y7 y9 H locs ls hc hP hD hS hl
    refine lv_iconst (v := 1) hx hb dL_addsUp_387 (by decide) ?_
    refine lv_goto (tgt := 392) hx hb dL_addsUp_388 (by decide) ?_
    refine lv_istore (lv' := [(8, .int 1), (0, .ref (aN 0 0)), (1, .int y1), (2, .int y2), (3, .int y3), (4, .int y4), (5, .int y5), (6, .int y6), (7, .int y7), (9, .int y9)]) hx hb dL_addsUp_392 hl (by decide) rfl (fun ls hl => ?_)
    refine lv_iinc (v := y9 + 1) (lv' := [(9, .int (y9 + 1)), (8, .int 1), (0, .ref (aN 0 0)), (1, .int y1), (2, .int y2), (3, .int y3), (4, .int y4), (5, .int y5), (6, .int y6), (7, .int y7)]) hx hb dL_addsUp_394 hl (k := 9) rfl rfl (by decide) rfl (fun ls hl => ?_)
    refine lv_goto (tgt := 331) hx hb dL_addsUp_397 (by decide) ?_
    exact hk331 y1 y2 y3 y4 y5 y6 y7 (y9 + 1) H locs ls hc hP hD hS (lv_sub hl [2, 3, 4, 5, 6, 7, 8, 9, 1, 0] rfl)
  have L331 : ∀ (n : Nat), ∀ (y1 : Int32) (y2 : Int32) (y3 : Int32) (y4 : Int32) (y5 : Int32) (y6 : Int32) (y7 : Int32) (y9 : Int32) (H : Heap) (locs : List Loc) (ls : Array Slot), f_L_addsUp_L331 v1 v2 G v3 n y1 y2 y3 y4 y5 y6 y7 y9 = some r → va_P D vwCl (NW cy aN v1 v2 G v3) H → va_D A (NW cy aN v1 v2 G v3) → va_S A s.heap H locs → lv_has ls 13 [(0, .ref (aN 0 0)), (1, .int y1), (2, .int y2), (3, .int y3), (4, .int y4), (5, .int y5), (6, .int y6), (7, .int y7), (8, .int 1), (9, .int y9)] → W p l e (RM 3 69) s m args below meth c H locs 0 0 Q (F0 m 331 ls []) := by
    intro n
    induction n with
    | zero =>
      intro y1 y2 y3 y4 y5 y6 y7 y9 H locs ls hc
      cases hc
    | succ n ih =>
      intro y1 y2 y3 y4 y5 y6 y7 y9 H locs ls hc hP hD hS hl
      unfold f_L_addsUp_L331 at hc
      refine lv_iload hx hb dL_addsUp_331 (lv_at hl 9 rfl) ?_
      refine lv_aload_n hx hb dL_addsUp_333 rfl (lv_at hl 0 rfl) ?_
      refine lv_bipush (v := 10) hx hb dL_addsUp_334 (by decide +kernel) ?_
      obtain ⟨x3, hc3, hc⟩ := b1_some hc
      refine gc_VI (n := 1) (q0 := 0) (ci := 3) (w' := NW cy aN v1 v2 G v3) hx hb hml hown hts hK hP hD hS hA hl.1 ⟨Nat.le_refl _, Nat.le_refl _⟩ (C_X3_count l D cy aN v1 v2 G v3 10 x3 hc3) gL_addsUp_X3_count rfl (by decide +kernel) rfl ⟨by decide, by decide⟩ Jn.same rfl rfl rfl (Nat.le_of_ble_eq_true rfl) dL_addsUp_336 (fun H locs hP hD hS => ?_)
      refine lv_icmp_gt (tgt := 400) hx hb dL_addsUp_339 (by decide) (fun c4 => ?_) (fun c4 => ?_)
      · replace hc := ite_t c4 hc
        exact J400 y1 y2 y3 y4 y5 y6 y7 H locs ls hc hP hD hS (lv_sub hl [0, 1, 2, 3, 4, 5, 6, 7, 8] rfl)
      · replace hc := ite_f c4 hc
        refine lv_iload hx hb dL_addsUp_342 (lv_at hl 8 rfl) ?_
        refine lv_if_eq (tgt := 400) hx hb dL_addsUp_344 (by decide) (fun c9 => absurd c9 (by decide)) (fun _ => ?_)
        refine lv_aload_n hx hb dL_addsUp_347 rfl (lv_at hl 0 rfl) ?_
        refine lv_iload hx hb dL_addsUp_348 (lv_at hl 9 rfl) ?_
        refine lv_iconst (v := 2) hx hb dL_addsUp_350 (by decide) ?_
        obtain ⟨x29, hc29, hc⟩ := b1_some hc
        refine gc_VI (n := 2) (q0 := 0) (ci := 3) (w' := NW cy aN v1 v2 G v3) hx hb hml hown hts hK hP hD hS hA hl.1 ⟨Nat.le_refl _, Nat.le_refl _⟩ (C_X3_requestAt l D cy aN v1 v2 G v3 y9 2 x29 hc29) gL_addsUp_X3_requestAt rfl (by decide +kernel) rfl ⟨by decide, by decide⟩ Jn.same rfl rfl rfl (Nat.le_of_ble_eq_true rfl) dL_addsUp_351 (fun H locs hP hD hS => ?_)
        refine lv_aload_n hx hb dL_addsUp_354 rfl (lv_at hl 0 rfl) ?_
        refine lv_iconst (v := 2) hx hb dL_addsUp_355 (by decide) ?_
        obtain ⟨x30, hc30, hc⟩ := b1_some hc
        refine gc_VI (n := 1) (q0 := 0) (ci := 3) (w' := NW cy aN v1 v2 G v3) hx hb hml hown hts hK hP hD hS hA hl.1 ⟨Nat.le_refl _, Nat.le_refl _⟩ (C_X3_count l D cy aN v1 v2 G v3 2 x30 hc30) gL_addsUp_X3_count rfl (by decide +kernel) rfl ⟨by decide, by decide⟩ Jn.same rfl rfl rfl (Nat.le_of_ble_eq_true rfl) dL_addsUp_356 (fun H locs hP hD hS => ?_)
        refine lv_icmp_gt (tgt := 391) hx hb dL_addsUp_359 (by decide) (fun c31 => ?_) (fun c31 => ?_)
        · replace hc := ite_t c31 hc
          cases hc
        · replace hc := ite_f c31 hc
          refine lv_iload hx hb dL_addsUp_362 (lv_at hl 9 rfl) ?_
          refine lv_iconst (v := 1) hx hb dL_addsUp_364 (by decide) ?_
          refine lv_icmp_eq (tgt := 387) hx hb dL_addsUp_365 (by decide) (fun c32 => ?_) (fun c32 => ?_)
          · replace hc := ite_t c32 hc
            exact J387 (f_L_addsUp_L331 v1 v2 G v3 n) ih y1 y2 y3 y4 y5 y6 y7 y9 H locs ls hc hP hD hS (lv_sub hl [0, 1, 2, 3, 4, 5, 6, 7, 9] rfl)
          · replace hc := ite_f c32 hc
            refine lv_aload_n hx hb dL_addsUp_368 rfl (lv_at hl 0 rfl) ?_
            refine lv_iload hx hb dL_addsUp_369 (lv_at hl 9 rfl) ?_
            refine lv_iconst (v := 2) hx hb dL_addsUp_371 (by decide) ?_
            obtain ⟨x33, hc33, hc⟩ := b1_some hc
            refine gc_VI (n := 2) (q0 := 0) (ci := 3) (w' := NW cy aN v1 v2 G v3) hx hb hml hown hts hK hP hD hS hA hl.1 ⟨Nat.le_refl _, Nat.le_refl _⟩ (C_X3_requestAt l D cy aN v1 v2 G v3 y9 2 x33 hc33) gL_addsUp_X3_requestAt rfl (by decide +kernel) rfl ⟨by decide, by decide⟩ Jn.same rfl rfl rfl (Nat.le_of_ble_eq_true rfl) dL_addsUp_372 (fun H locs hP hD hS => ?_)
            refine lv_aload_n hx hb dL_addsUp_375 rfl (lv_at hl 0 rfl) ?_
            refine lv_iload hx hb dL_addsUp_376 (lv_at hl 9 rfl) ?_
            refine lv_iconst (v := 1) hx hb dL_addsUp_378 (by decide) ?_
            refine lv_isub hx hb dL_addsUp_379 ?_
            refine lv_iconst (v := 2) hx hb dL_addsUp_380 (by decide) ?_
            obtain ⟨x34, hc34, hc⟩ := b1_some hc
            refine gc_VI (n := 2) (q0 := 0) (ci := 3) (w' := NW cy aN v1 v2 G v3) hx hb hml hown hts hK hP hD hS hA hl.1 ⟨Nat.le_refl _, Nat.le_refl _⟩ (C_X3_requestAt l D cy aN v1 v2 G v3 (y9 - 1) 2 x34 hc34) gL_addsUp_X3_requestAt rfl (by decide +kernel) rfl ⟨by decide, by decide⟩ Jn.same rfl rfl rfl (Nat.le_of_ble_eq_true rfl) dL_addsUp_381 (fun H locs hP hD hS => ?_)
            refine lv_icmp_lt (tgt := 391) hx hb dL_addsUp_384 (by decide) (fun c35 => ?_) (fun c35 => ?_)
            · replace hc := ite_t c35 hc
              cases hc
            · replace hc := ite_f c35 hc
              exact J387 (f_L_addsUp_L331 v1 v2 G v3 n) ih y1 y2 y3 y4 y5 y6 y7 y9 H locs ls hc hP hD hS (lv_sub hl [0, 1, 2, 3, 4, 5, 6, 7, 9] rfl)
  have J328 : ∀ (y1 : Int32) (y2 : Int32) (y3 : Int32) (y4 : Int32) (y5 : Int32) (y6 : Int32) (y7 : Int32) (H : Heap) (locs : List Loc) (ls : Array Slot), f_L_addsUp_J328 v1 v2 G v3 y1 y2 y3 y4 y5 y6 y7 = some r → va_P D vwCl (NW cy aN v1 v2 G v3) H → va_D A (NW cy aN v1 v2 G v3) → va_S A s.heap H locs → lv_has ls 13 [(0, .ref (aN 0 0)), (1, .int y1), (2, .int y2), (3, .int y3), (4, .int y4), (5, .int y5), (6, .int y6), (7, .int y7), (8, .int 1)] → W p l e (RM 3 69) s m args below meth c H locs 0 0 Q (F0 m 328 ls []) := by
    intro y1 y2 y3 y4 y5 y6 y7 H locs ls hc hP hD hS hl
    refine lv_iconst (v := 1) hx hb dL_addsUp_328 (by decide) ?_
    refine lv_istore (lv' := [(9, .int 1), (0, .ref (aN 0 0)), (1, .int y1), (2, .int y2), (3, .int y3), (4, .int y4), (5, .int y5), (6, .int y6), (7, .int y7), (8, .int 1)]) hx hb dL_addsUp_329 hl (by decide) rfl (fun ls hl => ?_)
    exact L331 FUEL y1 y2 y3 y4 y5 y6 y7 1 H locs ls hc hP hD hS (lv_sub hl [1, 2, 3, 4, 5, 6, 7, 8, 9, 0] rfl)
  have J155 : ∀ (k24 : Int32 → Int32 → Int32 → Int32 → Int32 → Int32 → Int32 → Int32 → Option (Int32)) (hk24 : ∀ (y1 : Int32) (y2 : Int32) (y3 : Int32) (y4 : Int32) (y5 : Int32) (y6 : Int32) (y7 : Int32) (y9 : Int32) (H : Heap) (locs : List Loc) (ls : Array Slot), k24 y1 y2 y3 y4 y5 y6 y7 y9 = some r → va_P D vwCl (NW cy aN v1 v2 G v3) H → va_D A (NW cy aN v1 v2 G v3) → va_S A s.heap H locs → lv_has ls 13 [(0, .ref (aN 0 0)), (1, .int y1), (2, .int y2), (3, .int y3), (4, .int y4), (5, .int y5), (6, .int y6), (7, .int y7), (8, .int 1), (9, .int y9)] → W p l e (RM 3 69) s m args below meth c H locs 0 0 Q (F0 m 24 ls [])), ∀ (y1 : Int32) (y2 : Int32) (y3 : Int32) (y4 : Int32) (y5 : Int32) (y6 : Int32) (y7 : Int32) (y9 : Int32) (y10 : Int32) (y11 : Int32) (H : Heap) (locs : List Loc) (ls : Array Slot), f_L_addsUp_J155 v1 v2 G v3 k24 y1 y2 y3 y4 y5 y6 y7 y9 y10 y11 = some r → va_P D vwCl (NW cy aN v1 v2 G v3) H → va_D A (NW cy aN v1 v2 G v3) → va_S A s.heap H locs → lv_has ls 13 [(0, .ref (aN 0 0)), (1, .int y1), (2, .int y2), (3, .int y3), (4, .int y4), (5, .int y5), (6, .int y6), (7, .int y7), (8, .int 1), (9, .int y9), (10, .int y10), (11, .int y11)] → W p l e (RM 3 69) s m args below meth c H locs 0 0 Q (F0 m 155 ls []) := by
    intro k24 hk24 y1 y2 y3 y4 y5 y6 y7 y9 y10 y11 H locs ls hc hP hD hS hl
    refine lv_iload_n hx hb dL_addsUp_155 rfl (lv_at hl 1 rfl) ?_
    refine lv_aload_n hx hb dL_addsUp_156 rfl (lv_at hl 0 rfl) ?_
    refine lv_iload hx hb dL_addsUp_157 (lv_at hl 9 rfl) ?_
    refine lv_iconst (v := 4) hx hb dL_addsUp_159 (by decide) ?_
    obtain ⟨x39, hc39, hc⟩ := b1_some hc
    refine gc_VI (n := 2) (q0 := 0) (ci := 3) (w' := NW cy aN v1 v2 G v3) hx hb hml hown hts hK hP hD hS hA hl.1 ⟨Nat.le_refl _, Nat.le_refl _⟩ (C_X3_wellOf l D cy aN v1 v2 G v3 y9 4 x39 hc39) gL_addsUp_X3_wellOf rfl (by decide +kernel) rfl ⟨by decide, by decide⟩ Jn.same rfl rfl rfl (Nat.le_of_ble_eq_true rfl) dL_addsUp_160 (fun H locs hP hD hS => ?_)
    refine lv_iadd hx hb dL_addsUp_163 ?_
    refine lv_istore_n (lv' := [(1, .int (y1 + x39)), (0, .ref (aN 0 0)), (2, .int y2), (3, .int y3), (4, .int y4), (5, .int y5), (6, .int y6), (7, .int y7), (8, .int 1), (9, .int y9), (10, .int y10), (11, .int y11)]) hx hb dL_addsUp_164 rfl hl (by decide) rfl (fun ls hl => ?_)
    refine lv_iload_n hx hb dL_addsUp_165 rfl (lv_at hl 2 rfl) ?_
    refine lv_aload_n hx hb dL_addsUp_166 rfl (lv_at hl 1 rfl) ?_
    refine lv_iload hx hb dL_addsUp_167 (lv_at hl 9 rfl) ?_
    refine lv_bipush (v := 6) hx hb dL_addsUp_169 (by decide +kernel) ?_
    obtain ⟨x40, hc40, hc⟩ := b1_some hc
    refine gc_VI (n := 2) (q0 := 0) (ci := 3) (w' := NW cy aN v1 v2 G v3) hx hb hml hown hts hK hP hD hS hA hl.1 ⟨Nat.le_refl _, Nat.le_refl _⟩ (C_X3_wellOf l D cy aN v1 v2 G v3 y9 6 x40 hc40) gL_addsUp_X3_wellOf rfl (by decide +kernel) rfl ⟨by decide, by decide⟩ Jn.same rfl rfl rfl (Nat.le_of_ble_eq_true rfl) dL_addsUp_171 (fun H locs hP hD hS => ?_)
    refine lv_iadd hx hb dL_addsUp_174 ?_
    refine lv_istore_n (lv' := [(2, .int (y2 + x40)), (1, .int (y1 + x39)), (0, .ref (aN 0 0)), (3, .int y3), (4, .int y4), (5, .int y5), (6, .int y6), (7, .int y7), (8, .int 1), (9, .int y9), (10, .int y10), (11, .int y11)]) hx hb dL_addsUp_175 rfl hl (by decide) rfl (fun ls hl => ?_)
    refine lv_iload_n hx hb dL_addsUp_176 rfl (lv_at hl 3 rfl) ?_
    refine lv_aload_n hx hb dL_addsUp_177 rfl (lv_at hl 2 rfl) ?_
    refine lv_iload hx hb dL_addsUp_178 (lv_at hl 9 rfl) ?_
    refine lv_bipush (v := 7) hx hb dL_addsUp_180 (by decide +kernel) ?_
    obtain ⟨x41, hc41, hc⟩ := b1_some hc
    refine gc_VI (n := 2) (q0 := 0) (ci := 3) (w' := NW cy aN v1 v2 G v3) hx hb hml hown hts hK hP hD hS hA hl.1 ⟨Nat.le_refl _, Nat.le_refl _⟩ (C_X3_wellOf l D cy aN v1 v2 G v3 y9 7 x41 hc41) gL_addsUp_X3_wellOf rfl (by decide +kernel) rfl ⟨by decide, by decide⟩ Jn.same rfl rfl rfl (Nat.le_of_ble_eq_true rfl) dL_addsUp_182 (fun H locs hP hD hS => ?_)
    refine lv_iadd hx hb dL_addsUp_185 ?_
    refine lv_istore_n (lv' := [(3, .int (y3 + x41)), (2, .int (y2 + x40)), (1, .int (y1 + x39)), (0, .ref (aN 0 0)), (4, .int y4), (5, .int y5), (6, .int y6), (7, .int y7), (8, .int 1), (9, .int y9), (10, .int y10), (11, .int y11)]) hx hb dL_addsUp_186 rfl hl (by decide) rfl (fun ls hl => ?_)
    refine lv_iload hx hb dL_addsUp_187 (lv_at hl 4 rfl) ?_
    refine lv_aload_n hx hb dL_addsUp_189 rfl (lv_at hl 3 rfl) ?_
    refine lv_iload hx hb dL_addsUp_190 (lv_at hl 9 rfl) ?_
    refine lv_bipush (v := 8) hx hb dL_addsUp_192 (by decide +kernel) ?_
    obtain ⟨x42, hc42, hc⟩ := b1_some hc
    refine gc_VI (n := 2) (q0 := 0) (ci := 3) (w' := NW cy aN v1 v2 G v3) hx hb hml hown hts hK hP hD hS hA hl.1 ⟨Nat.le_refl _, Nat.le_refl _⟩ (C_X3_wellOf l D cy aN v1 v2 G v3 y9 8 x42 hc42) gL_addsUp_X3_wellOf rfl (by decide +kernel) rfl ⟨by decide, by decide⟩ Jn.same rfl rfl rfl (Nat.le_of_ble_eq_true rfl) dL_addsUp_194 (fun H locs hP hD hS => ?_)
    refine lv_aload_n hx hb dL_addsUp_197 rfl (lv_at hl 3 rfl) ?_
    refine lv_iload hx hb dL_addsUp_198 (lv_at hl 9 rfl) ?_
    refine lv_bipush (v := 9) hx hb dL_addsUp_200 (by decide +kernel) ?_
    obtain ⟨x43, hc43, hc⟩ := b1_some hc
    refine gc_VI (n := 2) (q0 := 0) (ci := 3) (w' := NW cy aN v1 v2 G v3) hx hb hml hown hts hK hP hD hS hA hl.1 ⟨Nat.le_refl _, Nat.le_refl _⟩ (C_X3_wellOf l D cy aN v1 v2 G v3 y9 9 x43 hc43) gL_addsUp_X3_wellOf rfl (by decide +kernel) rfl ⟨by decide, by decide⟩ Jn.same rfl rfl rfl (Nat.le_of_ble_eq_true rfl) dL_addsUp_202 (fun H locs hP hD hS => ?_)
    refine lv_iadd hx hb dL_addsUp_205 ?_
    refine lv_iadd hx hb dL_addsUp_206 ?_
    refine lv_istore (lv' := [(4, .int (y4 + (x42 + x43))), (3, .int (y3 + x41)), (2, .int (y2 + x40)), (1, .int (y1 + x39)), (0, .ref (aN 0 0)), (5, .int y5), (6, .int y6), (7, .int y7), (8, .int 1), (9, .int y9), (10, .int y10), (11, .int y11)]) hx hb dL_addsUp_207 hl (by decide) rfl (fun ls hl => ?_)
    refine lv_iload hx hb dL_addsUp_209 (lv_at hl 5 rfl) ?_
    refine lv_aload_n hx hb dL_addsUp_211 rfl (lv_at hl 4 rfl) ?_
    refine lv_iload hx hb dL_addsUp_212 (lv_at hl 9 rfl) ?_
    refine lv_bipush (v := 10) hx hb dL_addsUp_214 (by decide +kernel) ?_
    obtain ⟨x44, hc44, hc⟩ := b1_some hc
    refine gc_VI (n := 2) (q0 := 0) (ci := 3) (w' := NW cy aN v1 v2 G v3) hx hb hml hown hts hK hP hD hS hA hl.1 ⟨Nat.le_refl _, Nat.le_refl _⟩ (C_X3_wellOf l D cy aN v1 v2 G v3 y9 10 x44 hc44) gL_addsUp_X3_wellOf rfl (by decide +kernel) rfl ⟨by decide, by decide⟩ Jn.same rfl rfl rfl (Nat.le_of_ble_eq_true rfl) dL_addsUp_216 (fun H locs hP hD hS => ?_)
    refine lv_iadd hx hb dL_addsUp_219 ?_
    refine lv_istore (lv' := [(5, .int (y5 + x44)), (4, .int (y4 + (x42 + x43))), (3, .int (y3 + x41)), (2, .int (y2 + x40)), (1, .int (y1 + x39)), (0, .ref (aN 0 0)), (6, .int y6), (7, .int y7), (8, .int 1), (9, .int y9), (10, .int y10), (11, .int y11)]) hx hb dL_addsUp_220 hl (by decide) rfl (fun ls hl => ?_)
    refine lv_iload hx hb dL_addsUp_222 (lv_at hl 6 rfl) ?_
    refine lv_aload_n hx hb dL_addsUp_224 rfl (lv_at hl 5 rfl) ?_
    refine lv_iload hx hb dL_addsUp_225 (lv_at hl 9 rfl) ?_
    refine lv_bipush (v := 11) hx hb dL_addsUp_227 (by decide +kernel) ?_
    obtain ⟨x45, hc45, hc⟩ := b1_some hc
    refine gc_VI (n := 2) (q0 := 0) (ci := 3) (w' := NW cy aN v1 v2 G v3) hx hb hml hown hts hK hP hD hS hA hl.1 ⟨Nat.le_refl _, Nat.le_refl _⟩ (C_X3_wellOf l D cy aN v1 v2 G v3 y9 11 x45 hc45) gL_addsUp_X3_wellOf rfl (by decide +kernel) rfl ⟨by decide, by decide⟩ Jn.same rfl rfl rfl (Nat.le_of_ble_eq_true rfl) dL_addsUp_229 (fun H locs hP hD hS => ?_)
    refine lv_iadd hx hb dL_addsUp_232 ?_
    refine lv_istore (lv' := [(6, .int (y6 + x45)), (5, .int (y5 + x44)), (4, .int (y4 + (x42 + x43))), (3, .int (y3 + x41)), (2, .int (y2 + x40)), (1, .int (y1 + x39)), (0, .ref (aN 0 0)), (7, .int y7), (8, .int 1), (9, .int y9), (10, .int y10), (11, .int y11)]) hx hb dL_addsUp_233 hl (by decide) rfl (fun ls hl => ?_)
    refine lv_iload hx hb dL_addsUp_235 (lv_at hl 7 rfl) ?_
    refine lv_aload_n hx hb dL_addsUp_237 rfl (lv_at hl 6 rfl) ?_
    refine lv_iload hx hb dL_addsUp_238 (lv_at hl 9 rfl) ?_
    refine lv_iconst (v := 5) hx hb dL_addsUp_240 (by decide) ?_
    obtain ⟨x46, hc46, hc⟩ := b1_some hc
    refine gc_VI (n := 2) (q0 := 0) (ci := 3) (w' := NW cy aN v1 v2 G v3) hx hb hml hown hts hK hP hD hS hA hl.1 ⟨Nat.le_refl _, Nat.le_refl _⟩ (C_X3_wellOf l D cy aN v1 v2 G v3 y9 5 x46 hc46) gL_addsUp_X3_wellOf rfl (by decide +kernel) rfl ⟨by decide, by decide⟩ Jn.same rfl rfl rfl (Nat.le_of_ble_eq_true rfl) dL_addsUp_241 (fun H locs hP hD hS => ?_)
    refine lv_iadd hx hb dL_addsUp_244 ?_
    refine lv_istore (lv' := [(7, .int (y7 + x46)), (6, .int (y6 + x45)), (5, .int (y5 + x44)), (4, .int (y4 + (x42 + x43))), (3, .int (y3 + x41)), (2, .int (y2 + x40)), (1, .int (y1 + x39)), (0, .ref (aN 0 0)), (8, .int 1), (9, .int y9), (10, .int y10), (11, .int y11)]) hx hb dL_addsUp_245 hl (by decide) rfl (fun ls hl => ?_)
    refine lv_iload hx hb dL_addsUp_247 (lv_at hl 8 rfl) ?_
    refine lv_if_eq (tgt := 319) hx hb dL_addsUp_249 (by decide) (fun c9 => absurd c9 (by decide)) (fun _ => ?_)
    refine lv_aload_n hx hb dL_addsUp_252 rfl (lv_at hl 7 rfl) ?_
    refine lv_iload hx hb dL_addsUp_253 (lv_at hl 9 rfl) ?_
    refine lv_iload hx hb dL_addsUp_255 (lv_at hl 11 rfl) ?_
    obtain ⟨x47, hc47, hc⟩ := b1_some hc
    refine gc_VI (n := 2) (q0 := 0) (ci := 3) (w' := NW cy aN v1 v2 G v3) hx hb hml hown hts hK hP hD hS hA hl.1 ⟨Nat.le_refl _, Nat.le_refl _⟩ (C_X3_aboveAt l D cy aN v1 v2 G v3 y9 y11 x47 hc47) gL_addsUp_X3_aboveAt rfl (by decide +kernel) rfl ⟨by decide, by decide⟩ Jn.same rfl rfl rfl (Nat.le_of_ble_eq_true rfl) dL_addsUp_257 (fun H locs hP hD hS => ?_)
    refine lv_bipush (v := (-4)) hx hb dL_addsUp_260 (by decide +kernel) ?_
    refine lv_icmp_ne (tgt := 319) hx hb dL_addsUp_262 (by decide) (fun c48 => ?_) (fun c48 => ?_)
    · replace hc := ite_f c48 hc
      cases hc
    · replace hc := ite_t c48 hc
      refine lv_aload_n hx hb dL_addsUp_265 rfl (lv_at hl 7 rfl) ?_
      refine lv_iload hx hb dL_addsUp_266 (lv_at hl 9 rfl) ?_
      refine lv_iconst (v := 4) hx hb dL_addsUp_268 (by decide) ?_
      obtain ⟨x49, hc49, hc⟩ := b1_some hc
      refine gc_VI (n := 2) (q0 := 0) (ci := 3) (w' := NW cy aN v1 v2 G v3) hx hb hml hown hts hK hP hD hS hA hl.1 ⟨Nat.le_refl _, Nat.le_refl _⟩ (C_X3_wellOf l D cy aN v1 v2 G v3 y9 4 x49 hc49) gL_addsUp_X3_wellOf rfl (by decide +kernel) rfl ⟨by decide, by decide⟩ Jn.same rfl rfl rfl (Nat.le_of_ble_eq_true rfl) dL_addsUp_269 (fun H locs hP hD hS => ?_)
      refine lv_if_lt (tgt := 319) hx hb dL_addsUp_272 (by decide) (fun c50 => ?_) (fun c50 => ?_)
      · replace hc := ite_t c50 hc
        cases hc
      · replace hc := ite_f c50 hc
        refine lv_aload_n hx hb dL_addsUp_275 rfl (lv_at hl 7 rfl) ?_
        refine lv_iload hx hb dL_addsUp_276 (lv_at hl 9 rfl) ?_
        refine lv_iconst (v := 4) hx hb dL_addsUp_278 (by decide) ?_
        obtain ⟨x51, hc51, hc⟩ := b1_some hc
        refine gc_VI (n := 2) (q0 := 0) (ci := 3) (w' := NW cy aN v1 v2 G v3) hx hb hml hown hts hK hP hD hS hA hl.1 ⟨Nat.le_refl _, Nat.le_refl _⟩ (C_X3_wellOf l D cy aN v1 v2 G v3 y9 4 x51 hc51) gL_addsUp_X3_wellOf rfl (by decide +kernel) rfl ⟨by decide, by decide⟩ Jn.same rfl rfl rfl (Nat.le_of_ble_eq_true rfl) dL_addsUp_279 (fun H locs hP hD hS => ?_)
        refine lv_aload_n hx hb dL_addsUp_282 rfl (lv_at hl 7 rfl) ?_
        refine lv_iload hx hb dL_addsUp_283 (lv_at hl 9 rfl) ?_
        refine lv_iconst (v := 1) hx hb dL_addsUp_285 (by decide) ?_
        obtain ⟨x52, hc52, hc⟩ := b1_some hc
        refine gc_VI (n := 2) (q0 := 0) (ci := 3) (w' := NW cy aN v1 v2 G v3) hx hb hml hown hts hK hP hD hS hA hl.1 ⟨Nat.le_refl _, Nat.le_refl _⟩ (C_X3_wellOf l D cy aN v1 v2 G v3 y9 1 x52 hc52) gL_addsUp_X3_wellOf rfl (by decide +kernel) rfl ⟨by decide, by decide⟩ Jn.same rfl rfl rfl (Nat.le_of_ble_eq_true rfl) dL_addsUp_286 (fun H locs hP hD hS => ?_)
        refine lv_icmp_gt (tgt := 319) hx hb dL_addsUp_289 (by decide) (fun c53 => ?_) (fun c53 => ?_)
        · replace hc := ite_t c53 hc
          cases hc
        · replace hc := ite_f c53 hc
          refine lv_aload_n hx hb dL_addsUp_292 rfl (lv_at hl 7 rfl) ?_
          refine lv_iload hx hb dL_addsUp_293 (lv_at hl 9 rfl) ?_
          refine lv_iconst (v := 5) hx hb dL_addsUp_295 (by decide) ?_
          obtain ⟨x54, hc54, hc⟩ := b1_some hc
          refine gc_VI (n := 2) (q0 := 0) (ci := 3) (w' := NW cy aN v1 v2 G v3) hx hb hml hown hts hK hP hD hS hA hl.1 ⟨Nat.le_refl _, Nat.le_refl _⟩ (C_X3_wellOf l D cy aN v1 v2 G v3 y9 5 x54 hc54) gL_addsUp_X3_wellOf rfl (by decide +kernel) rfl ⟨by decide, by decide⟩ Jn.same rfl rfl rfl (Nat.le_of_ble_eq_true rfl) dL_addsUp_296 (fun H locs hP hD hS => ?_)
          refine lv_if_lt (tgt := 319) hx hb dL_addsUp_299 (by decide) (fun c55 => ?_) (fun c55 => ?_)
          · replace hc := ite_t c55 hc
            cases hc
          · replace hc := ite_f c55 hc
            refine lv_aload_n hx hb dL_addsUp_302 rfl (lv_at hl 7 rfl) ?_
            refine lv_iload hx hb dL_addsUp_303 (lv_at hl 9 rfl) ?_
            refine lv_bipush (v := 12) hx hb dL_addsUp_305 (by decide +kernel) ?_
            obtain ⟨x56, hc56, hc⟩ := b1_some hc
            refine gc_VI (n := 2) (q0 := 0) (ci := 3) (w' := NW cy aN v1 v2 G v3) hx hb hml hown hts hK hP hD hS hA hl.1 ⟨Nat.le_refl _, Nat.le_refl _⟩ (C_X3_wellOf l D cy aN v1 v2 G v3 y9 12 x56 hc56) gL_addsUp_X3_wellOf rfl (by decide +kernel) rfl ⟨by decide, by decide⟩ Jn.same rfl rfl rfl (Nat.le_of_ble_eq_true rfl) dL_addsUp_307 (fun H locs hP hD hS => ?_)
            refine lv_iload hx hb dL_addsUp_310 (lv_at hl 10 rfl) ?_
            refine lv_icmp_ne (tgt := 319) hx hb dL_addsUp_312 (by decide) (fun c57 => ?_) (fun c57 => ?_)
            · replace hc := ite_f c57 hc
              cases hc
            · replace hc := ite_t c57 hc
              refine lv_iconst (v := 1) hx hb dL_addsUp_315 (by decide) ?_
              refine lv_goto (tgt := 320) hx hb dL_addsUp_316 (by decide) ?_
              refine lv_istore (lv' := [(8, .int 1), (7, .int (y7 + x46)), (6, .int (y6 + x45)), (5, .int (y5 + x44)), (4, .int (y4 + (x42 + x43))), (3, .int (y3 + x41)), (2, .int (y2 + x40)), (1, .int (y1 + x39)), (0, .ref (aN 0 0)), (9, .int y9), (10, .int y10), (11, .int y11)]) hx hb dL_addsUp_320 hl (by decide) rfl (fun ls hl => ?_)
              refine lv_iinc (v := y9 + 1) (lv' := [(9, .int (y9 + 1)), (8, .int 1), (7, .int (y7 + x46)), (6, .int (y6 + x45)), (5, .int (y5 + x44)), (4, .int (y4 + (x42 + x43))), (3, .int (y3 + x41)), (2, .int (y2 + x40)), (1, .int (y1 + x39)), (0, .ref (aN 0 0)), (10, .int y10), (11, .int y11)]) hx hb dL_addsUp_322 hl (k := 9) rfl rfl (by decide) rfl (fun ls hl => ?_)
              refine lv_goto (tgt := 24) hx hb dL_addsUp_325 (by decide) ?_
              exact hk24 (y1 + x39) (y2 + x40) (y3 + x41) (y4 + (x42 + x43)) (y5 + x44) (y6 + x45) (y7 + x46) (y9 + 1) H locs ls hc hP hD hS (lv_sub hl [9, 8, 7, 6, 5, 4, 3, 2, 1, 0] rfl)
  have L93 : ∀ (k24 : Int32 → Int32 → Int32 → Int32 → Int32 → Int32 → Int32 → Int32 → Option (Int32)) (hk24 : ∀ (y1 : Int32) (y2 : Int32) (y3 : Int32) (y4 : Int32) (y5 : Int32) (y6 : Int32) (y7 : Int32) (y9 : Int32) (H : Heap) (locs : List Loc) (ls : Array Slot), k24 y1 y2 y3 y4 y5 y6 y7 y9 = some r → va_P D vwCl (NW cy aN v1 v2 G v3) H → va_D A (NW cy aN v1 v2 G v3) → va_S A s.heap H locs → lv_has ls 13 [(0, .ref (aN 0 0)), (1, .int y1), (2, .int y2), (3, .int y3), (4, .int y4), (5, .int y5), (6, .int y6), (7, .int y7), (8, .int 1), (9, .int y9)] → W p l e (RM 3 69) s m args below meth c H locs 0 0 Q (F0 m 24 ls [])) (n : Nat), ∀ (y1 : Int32) (y2 : Int32) (y3 : Int32) (y4 : Int32) (y5 : Int32) (y6 : Int32) (y7 : Int32) (y9 : Int32) (y10 : Int32) (y11 : Int32) (y12 : Int32) (H : Heap) (locs : List Loc) (ls : Array Slot), f_L_addsUp_L93 v1 v2 G v3 k24 n y1 y2 y3 y4 y5 y6 y7 y9 y10 y11 y12 = some r → va_P D vwCl (NW cy aN v1 v2 G v3) H → va_D A (NW cy aN v1 v2 G v3) → va_S A s.heap H locs → lv_has ls 13 [(0, .ref (aN 0 0)), (1, .int y1), (2, .int y2), (3, .int y3), (4, .int y4), (5, .int y5), (6, .int y6), (7, .int y7), (8, .int 1), (9, .int y9), (10, .int y10), (11, .int y11), (12, .int y12)] → W p l e (RM 3 69) s m args below meth c H locs 0 0 Q (F0 m 93 ls []) := by
    intro k24 hk24 n
    induction n with
    | zero =>
      intro y1 y2 y3 y4 y5 y6 y7 y9 y10 y11 y12 H locs ls hc
      cases hc
    | succ n ih =>
      intro y1 y2 y3 y4 y5 y6 y7 y9 y10 y11 y12 H locs ls hc hP hD hS hl
      unfold f_L_addsUp_L93 at hc
      refine lv_iload hx hb dL_addsUp_93 (lv_at hl 12 rfl) ?_
      refine lv_if_le (tgt := 155) hx hb dL_addsUp_95 (by decide) (fun c38 => ?_) (fun c38 => ?_)
      · replace hc := ite_t c38 hc
        exact J155 k24 hk24 y1 y2 y3 y4 y5 y6 y7 y9 y10 y11 H locs ls hc hP hD hS (lv_sub hl [0, 1, 2, 3, 4, 5, 6, 7, 8, 9, 10, 11] rfl)
      · replace hc := ite_f c38 hc
        refine lv_iload hx hb dL_addsUp_98 (lv_at hl 8 rfl) ?_
        refine lv_if_eq (tgt := 155) hx hb dL_addsUp_100 (by decide) (fun c9 => absurd c9 (by decide)) (fun _ => ?_)
        refine lv_aload_n hx hb dL_addsUp_103 rfl (lv_at hl 0 rfl) ?_
        refine lv_iload hx hb dL_addsUp_104 (lv_at hl 12 rfl) ?_
        refine lv_iconst (v := 0) hx hb dL_addsUp_106 (by decide) ?_
        obtain ⟨x58, hc58, hc⟩ := b1_some hc
        refine gc_VI (n := 2) (q0 := 0) (ci := 3) (w' := NW cy aN v1 v2 G v3) hx hb hml hown hts hK hP hD hS hA hl.1 ⟨Nat.le_refl _, Nat.le_refl _⟩ (C_X3_wellOf l D cy aN v1 v2 G v3 y12 0 x58 hc58) gL_addsUp_X3_wellOf rfl (by decide +kernel) rfl ⟨by decide, by decide⟩ Jn.same rfl rfl rfl (Nat.le_of_ble_eq_true rfl) dL_addsUp_107 (fun H locs hP hD hS => ?_)
        refine lv_iload hx hb dL_addsUp_110 (lv_at hl 12 rfl) ?_
        refine lv_icmp_ge (tgt := 137) hx hb dL_addsUp_112 (by decide) (fun c59 => ?_) (fun c59 => ?_)
        · replace hc := ite_t c59 hc
          cases hc
        · replace hc := ite_f c59 hc
          refine lv_aload_n hx hb dL_addsUp_115 rfl (lv_at hl 0 rfl) ?_
          refine lv_iload hx hb dL_addsUp_116 (lv_at hl 9 rfl) ?_
          refine lv_iload hx hb dL_addsUp_118 (lv_at hl 11 rfl) ?_
          obtain ⟨x60, hc60, hc⟩ := b1_some hc
          refine gc_VI (n := 2) (q0 := 0) (ci := 3) (w' := NW cy aN v1 v2 G v3) hx hb hml hown hts hK hP hD hS hA hl.1 ⟨Nat.le_refl _, Nat.le_refl _⟩ (C_X3_aboveAt l D cy aN v1 v2 G v3 y9 y11 x60 hc60) gL_addsUp_X3_aboveAt rfl (by decide +kernel) rfl ⟨by decide, by decide⟩ Jn.same rfl rfl rfl (Nat.le_of_ble_eq_true rfl) dL_addsUp_120 (fun H locs hP hD hS => ?_)
          refine lv_aload_n hx hb dL_addsUp_123 rfl (lv_at hl 0 rfl) ?_
          refine lv_iload hx hb dL_addsUp_124 (lv_at hl 12 rfl) ?_
          refine lv_iconst (v := 0) hx hb dL_addsUp_126 (by decide) ?_
          obtain ⟨x61, hc61, hc⟩ := b1_some hc
          refine gc_VI (n := 2) (q0 := 0) (ci := 3) (w' := NW cy aN v1 v2 G v3) hx hb hml hown hts hK hP hD hS hA hl.1 ⟨Nat.le_refl _, Nat.le_refl _⟩ (C_X3_wellOf l D cy aN v1 v2 G v3 y12 0 x61 hc61) gL_addsUp_X3_wellOf rfl (by decide +kernel) rfl ⟨by decide, by decide⟩ Jn.same rfl rfl rfl (Nat.le_of_ble_eq_true rfl) dL_addsUp_127 (fun H locs hP hD hS => ?_)
          refine lv_icmp_ne (tgt := 137) hx hb dL_addsUp_130 (by decide) (fun c62 => ?_) (fun c62 => ?_)
          · replace hc := ite_f c62 hc
            cases hc
          · replace hc := ite_t c62 hc
            refine lv_iconst (v := 1) hx hb dL_addsUp_133 (by decide) ?_
            refine lv_goto (tgt := 138) hx hb dL_addsUp_134 (by decide) ?_
            refine lv_istore (lv' := [(8, .int 1), (0, .ref (aN 0 0)), (1, .int y1), (2, .int y2), (3, .int y3), (4, .int y4), (5, .int y5), (6, .int y6), (7, .int y7), (9, .int y9), (10, .int y10), (11, .int y11), (12, .int y12)]) hx hb dL_addsUp_138 hl (by decide) rfl (fun ls hl => ?_)
            refine lv_aload_n hx hb dL_addsUp_140 rfl (lv_at hl 1 rfl) ?_
            refine lv_iload hx hb dL_addsUp_141 (lv_at hl 12 rfl) ?_
            refine lv_iconst (v := 0) hx hb dL_addsUp_143 (by decide) ?_
            obtain ⟨x63, hc63, hc⟩ := b1_some hc
            refine gc_VI (n := 2) (q0 := 0) (ci := 3) (w' := NW cy aN v1 v2 G v3) hx hb hml hown hts hK hP hD hS hA hl.1 ⟨Nat.le_refl _, Nat.le_refl _⟩ (C_X3_wellOf l D cy aN v1 v2 G v3 y12 0 x63 hc63) gL_addsUp_X3_wellOf rfl (by decide +kernel) rfl ⟨by decide, by decide⟩ Jn.same rfl rfl rfl (Nat.le_of_ble_eq_true rfl) dL_addsUp_144 (fun H locs hP hD hS => ?_)
            refine lv_istore (lv' := [(12, .int x63), (8, .int 1), (0, .ref (aN 0 0)), (1, .int y1), (2, .int y2), (3, .int y3), (4, .int y4), (5, .int y5), (6, .int y6), (7, .int y7), (9, .int y9), (10, .int y10), (11, .int y11)]) hx hb dL_addsUp_147 hl (by decide) rfl (fun ls hl => ?_)
            refine lv_iinc (v := y11 + 1) (lv' := [(11, .int (y11 + 1)), (12, .int x63), (8, .int 1), (0, .ref (aN 0 0)), (1, .int y1), (2, .int y2), (3, .int y3), (4, .int y4), (5, .int y5), (6, .int y6), (7, .int y7), (9, .int y9), (10, .int y10)]) hx hb dL_addsUp_149 hl (k := 12) rfl rfl (by decide) rfl (fun ls hl => ?_)
            refine lv_goto (tgt := 93) hx hb dL_addsUp_152 (by decide) ?_
            exact ih y1 y2 y3 y4 y5 y6 y7 y9 y10 (y11 + 1) x63 H locs ls hc hP hD hS (lv_sub hl [3, 4, 5, 6, 7, 8, 9, 10, 2, 11, 12, 0, 1] rfl)
  have J86 : ∀ (k24 : Int32 → Int32 → Int32 → Int32 → Int32 → Int32 → Int32 → Int32 → Option (Int32)) (hk24 : ∀ (y1 : Int32) (y2 : Int32) (y3 : Int32) (y4 : Int32) (y5 : Int32) (y6 : Int32) (y7 : Int32) (y9 : Int32) (H : Heap) (locs : List Loc) (ls : Array Slot), k24 y1 y2 y3 y4 y5 y6 y7 y9 = some r → va_P D vwCl (NW cy aN v1 v2 G v3) H → va_D A (NW cy aN v1 v2 G v3) → va_S A s.heap H locs → lv_has ls 13 [(0, .ref (aN 0 0)), (1, .int y1), (2, .int y2), (3, .int y3), (4, .int y4), (5, .int y5), (6, .int y6), (7, .int y7), (8, .int 1), (9, .int y9)] → W p l e (RM 3 69) s m args below meth c H locs 0 0 Q (F0 m 24 ls [])), ∀ (y1 : Int32) (y2 : Int32) (y3 : Int32) (y4 : Int32) (y5 : Int32) (y6 : Int32) (y7 : Int32) (y9 : Int32) (y10 : Int32) (H : Heap) (locs : List Loc) (ls : Array Slot), f_L_addsUp_J86 v1 v2 G v3 k24 y1 y2 y3 y4 y5 y6 y7 y9 y10 = some r → va_P D vwCl (NW cy aN v1 v2 G v3) H → va_D A (NW cy aN v1 v2 G v3) → va_S A s.heap H locs → lv_has ls 13 [(0, .ref (aN 0 0)), (1, .int y1), (2, .int y2), (3, .int y3), (4, .int y4), (5, .int y5), (6, .int y6), (7, .int y7), (8, .int 1), (9, .int y9), (10, .int y10)] → W p l e (RM 3 69) s m args below meth c H locs 0 0 Q (F0 m 86 ls []) := by
    intro k24 hk24 y1 y2 y3 y4 y5 y6 y7 y9 y10 H locs ls hc hP hD hS hl
    refine lv_iconst (v := 0) hx hb dL_addsUp_86 (by decide) ?_
    refine lv_istore (lv' := [(11, .int 0), (0, .ref (aN 0 0)), (1, .int y1), (2, .int y2), (3, .int y3), (4, .int y4), (5, .int y5), (6, .int y6), (7, .int y7), (8, .int 1), (9, .int y9), (10, .int y10)]) hx hb dL_addsUp_87 hl (by decide) rfl (fun ls hl => ?_)
    refine lv_iload hx hb dL_addsUp_89 (lv_at hl 10 rfl) ?_
    refine lv_istore (lv' := [(12, .int y9), (11, .int 0), (0, .ref (aN 0 0)), (1, .int y1), (2, .int y2), (3, .int y3), (4, .int y4), (5, .int y5), (6, .int y6), (7, .int y7), (8, .int 1), (9, .int y9), (10, .int y10)]) hx hb dL_addsUp_91 hl (by decide) rfl (fun ls hl => ?_)
    exact L93 k24 hk24 FUEL y1 y2 y3 y4 y5 y6 y7 y9 y10 0 y9 H locs ls hc hP hD hS (lv_sub hl [2, 3, 4, 5, 6, 7, 8, 9, 10, 11, 12, 1, 0] rfl)
  have J77 : ∀ (k24 : Int32 → Int32 → Int32 → Int32 → Int32 → Int32 → Int32 → Int32 → Option (Int32)) (hk24 : ∀ (y1 : Int32) (y2 : Int32) (y3 : Int32) (y4 : Int32) (y5 : Int32) (y6 : Int32) (y7 : Int32) (y9 : Int32) (H : Heap) (locs : List Loc) (ls : Array Slot), k24 y1 y2 y3 y4 y5 y6 y7 y9 = some r → va_P D vwCl (NW cy aN v1 v2 G v3) H → va_D A (NW cy aN v1 v2 G v3) → va_S A s.heap H locs → lv_has ls 13 [(0, .ref (aN 0 0)), (1, .int y1), (2, .int y2), (3, .int y3), (4, .int y4), (5, .int y5), (6, .int y6), (7, .int y7), (8, .int 1), (9, .int y9)] → W p l e (RM 3 69) s m args below meth c H locs 0 0 Q (F0 m 24 ls [])) (k48 : Int32 → Int32 → Int32 → Int32 → Int32 → Int32 → Int32 → Int32 → Int32 → Int32 → Option (Int32)) (hk48 : ∀ (y1 : Int32) (y2 : Int32) (y3 : Int32) (y4 : Int32) (y5 : Int32) (y6 : Int32) (y7 : Int32) (y9 : Int32) (y10 : Int32) (y11 : Int32) (H : Heap) (locs : List Loc) (ls : Array Slot), k48 y1 y2 y3 y4 y5 y6 y7 y9 y10 y11 = some r → va_P D vwCl (NW cy aN v1 v2 G v3) H → va_D A (NW cy aN v1 v2 G v3) → va_S A s.heap H locs → lv_has ls 13 [(0, .ref (aN 0 0)), (1, .int y1), (2, .int y2), (3, .int y3), (4, .int y4), (5, .int y5), (6, .int y6), (7, .int y7), (8, .int 1), (9, .int y9), (10, .int y10), (11, .int y11)] → W p l e (RM 3 69) s m args below meth c H locs 0 0 Q (F0 m 48 ls [])), ∀ (y1 : Int32) (y2 : Int32) (y3 : Int32) (y4 : Int32) (y5 : Int32) (y6 : Int32) (y7 : Int32) (y9 : Int32) (y11 : Int32) (z0 : Int32) (z1 : Int32) (H : Heap) (locs : List Loc) (ls : Array Slot), f_L_addsUp_J77 v1 v2 G v3 k24 k48 y1 y2 y3 y4 y5 y6 y7 y9 y11 z0 z1 = some r → va_P D vwCl (NW cy aN v1 v2 G v3) H → va_D A (NW cy aN v1 v2 G v3) → va_S A s.heap H locs → lv_has ls 13 [(0, .ref (aN 0 0)), (1, .int y1), (2, .int y2), (3, .int y3), (4, .int y4), (5, .int y5), (6, .int y6), (7, .int y7), (8, .int 1), (9, .int y9), (11, .int y11)] → W p l e (RM 3 69) s m args below meth c H locs 0 0 Q (F0 m 77 ls [.int z0, .int z1]) := by
    intro k24 hk24 k48 hk48 y1 y2 y3 y4 y5 y6 y7 y9 y11 z0 z1 H locs ls hc hP hD hS hl
    refine lv_iadd hx hb dL_addsUp_77 ?_
    refine lv_istore (lv' := [(10, .int (z1 + z0)), (0, .ref (aN 0 0)), (1, .int y1), (2, .int y2), (3, .int y3), (4, .int y4), (5, .int y5), (6, .int y6), (7, .int y7), (8, .int 1), (9, .int y9), (11, .int y11)]) hx hb dL_addsUp_78 hl (by decide) rfl (fun ls hl => ?_)
    refine lv_iinc (v := y11 + 1) (lv' := [(11, .int (y11 + 1)), (10, .int (z1 + z0)), (0, .ref (aN 0 0)), (1, .int y1), (2, .int y2), (3, .int y3), (4, .int y4), (5, .int y5), (6, .int y6), (7, .int y7), (8, .int 1), (9, .int y9)]) hx hb dL_addsUp_80 hl (k := 11) rfl rfl (by decide) rfl (fun ls hl => ?_)
    refine lv_goto (tgt := 48) hx hb dL_addsUp_83 (by decide) ?_
    exact hk48 y1 y2 y3 y4 y5 y6 y7 y9 (z1 + z0) (y11 + 1) H locs ls hc hP hD hS (lv_sub hl [2, 3, 4, 5, 6, 7, 8, 9, 10, 11, 1, 0] rfl)
  have L48 : ∀ (k24 : Int32 → Int32 → Int32 → Int32 → Int32 → Int32 → Int32 → Int32 → Option (Int32)) (hk24 : ∀ (y1 : Int32) (y2 : Int32) (y3 : Int32) (y4 : Int32) (y5 : Int32) (y6 : Int32) (y7 : Int32) (y9 : Int32) (H : Heap) (locs : List Loc) (ls : Array Slot), k24 y1 y2 y3 y4 y5 y6 y7 y9 = some r → va_P D vwCl (NW cy aN v1 v2 G v3) H → va_D A (NW cy aN v1 v2 G v3) → va_S A s.heap H locs → lv_has ls 13 [(0, .ref (aN 0 0)), (1, .int y1), (2, .int y2), (3, .int y3), (4, .int y4), (5, .int y5), (6, .int y6), (7, .int y7), (8, .int 1), (9, .int y9)] → W p l e (RM 3 69) s m args below meth c H locs 0 0 Q (F0 m 24 ls [])) (n : Nat), ∀ (y1 : Int32) (y2 : Int32) (y3 : Int32) (y4 : Int32) (y5 : Int32) (y6 : Int32) (y7 : Int32) (y9 : Int32) (y10 : Int32) (y11 : Int32) (H : Heap) (locs : List Loc) (ls : Array Slot), f_L_addsUp_L48 v1 v2 G v3 k24 n y1 y2 y3 y4 y5 y6 y7 y9 y10 y11 = some r → va_P D vwCl (NW cy aN v1 v2 G v3) H → va_D A (NW cy aN v1 v2 G v3) → va_S A s.heap H locs → lv_has ls 13 [(0, .ref (aN 0 0)), (1, .int y1), (2, .int y2), (3, .int y3), (4, .int y4), (5, .int y5), (6, .int y6), (7, .int y7), (8, .int 1), (9, .int y9), (10, .int y10), (11, .int y11)] → W p l e (RM 3 69) s m args below meth c H locs 0 0 Q (F0 m 48 ls []) := by
    intro k24 hk24 n
    induction n with
    | zero =>
      intro y1 y2 y3 y4 y5 y6 y7 y9 y10 y11 H locs ls hc
      cases hc
    | succ n ih =>
      intro y1 y2 y3 y4 y5 y6 y7 y9 y10 y11 H locs ls hc hP hD hS hl
      unfold f_L_addsUp_L48 at hc
      refine lv_iload hx hb dL_addsUp_48 (lv_at hl 11 rfl) ?_
      refine lv_aload_n hx hb dL_addsUp_50 rfl (lv_at hl 0 rfl) ?_
      refine lv_iconst (v := 0) hx hb dL_addsUp_51 (by decide) ?_
      obtain ⟨x36, hc36, hc⟩ := b1_some hc
      refine gc_VI (n := 1) (q0 := 0) (ci := 3) (w' := NW cy aN v1 v2 G v3) hx hb hml hown hts hK hP hD hS hA hl.1 ⟨Nat.le_refl _, Nat.le_refl _⟩ (C_X3_count l D cy aN v1 v2 G v3 0 x36 hc36) gL_addsUp_X3_count rfl (by decide +kernel) rfl ⟨by decide, by decide⟩ Jn.same rfl rfl rfl (Nat.le_of_ble_eq_true rfl) dL_addsUp_52 (fun H locs hP hD hS => ?_)
      refine lv_icmp_ge (tgt := 86) hx hb dL_addsUp_55 (by decide) (fun c37 => ?_) (fun c37 => ?_)
      · replace hc := ite_t c37 hc
        exact J86 k24 hk24 y1 y2 y3 y4 y5 y6 y7 y9 y10 H locs ls hc hP hD hS (lv_sub hl [0, 1, 2, 3, 4, 5, 6, 7, 8, 9, 10] rfl)
      · replace hc := ite_f c37 hc
        refine lv_iload hx hb dL_addsUp_58 (lv_at hl 10 rfl) ?_
        refine lv_aload_n hx hb dL_addsUp_60 rfl (lv_at hl 0 rfl) ?_
        refine lv_iload hx hb dL_addsUp_61 (lv_at hl 11 rfl) ?_
        refine lv_iconst (v := 0) hx hb dL_addsUp_63 (by decide) ?_
        obtain ⟨x64, hc64, hc⟩ := b1_some hc
        refine gc_VI (n := 2) (q0 := 0) (ci := 3) (w' := NW cy aN v1 v2 G v3) hx hb hml hown hts hK hP hD hS hA hl.1 ⟨Nat.le_refl _, Nat.le_refl _⟩ (C_X3_wellOf l D cy aN v1 v2 G v3 y11 0 x64 hc64) gL_addsUp_X3_wellOf rfl (by decide +kernel) rfl ⟨by decide, by decide⟩ Jn.same rfl rfl rfl (Nat.le_of_ble_eq_true rfl) dL_addsUp_64 (fun H locs hP hD hS => ?_)
        refine lv_iload hx hb dL_addsUp_67 (lv_at hl 9 rfl) ?_
        refine lv_icmp_ne (tgt := 76) hx hb dL_addsUp_69 (by decide) (fun c65 => ?_) (fun c65 => ?_)
        · replace hc := ite_f c65 hc
          refine lv_iconst (v := 0) hx hb dL_addsUp_76 (by decide) ?_
          exact J77 k24 hk24 (f_L_addsUp_L48 v1 v2 G v3 k24 n) ih y1 y2 y3 y4 y5 y6 y7 y9 y11 0 y10 H locs ls hc hP hD hS (lv_sub hl [0, 1, 2, 3, 4, 5, 6, 7, 8, 9, 11] rfl)
        · replace hc := ite_t c65 hc
          refine lv_iconst (v := 1) hx hb dL_addsUp_72 (by decide) ?_
          refine lv_goto (tgt := 77) hx hb dL_addsUp_73 (by decide) ?_
          exact J77 k24 hk24 (f_L_addsUp_L48 v1 v2 G v3 k24 n) ih y1 y2 y3 y4 y5 y6 y7 y9 y11 1 y10 H locs ls hc hP hD hS (lv_sub hl [0, 1, 2, 3, 4, 5, 6, 7, 8, 9, 11] rfl)
  have L24 : ∀ (n : Nat), ∀ (y1 : Int32) (y2 : Int32) (y3 : Int32) (y4 : Int32) (y5 : Int32) (y6 : Int32) (y7 : Int32) (y9 : Int32) (H : Heap) (locs : List Loc) (ls : Array Slot), f_L_addsUp_L24 v1 v2 G v3 n y1 y2 y3 y4 y5 y6 y7 y9 = some r → va_P D vwCl (NW cy aN v1 v2 G v3) H → va_D A (NW cy aN v1 v2 G v3) → va_S A s.heap H locs → lv_has ls 13 [(0, .ref (aN 0 0)), (1, .int y1), (2, .int y2), (3, .int y3), (4, .int y4), (5, .int y5), (6, .int y6), (7, .int y7), (8, .int 1), (9, .int y9)] → W p l e (RM 3 69) s m args below meth c H locs 0 0 Q (F0 m 24 ls []) := by
    intro n
    induction n with
    | zero =>
      intro y1 y2 y3 y4 y5 y6 y7 y9 H locs ls hc
      cases hc
    | succ n ih =>
      intro y1 y2 y3 y4 y5 y6 y7 y9 H locs ls hc hP hD hS hl
      unfold f_L_addsUp_L24 at hc
      refine lv_iload hx hb dL_addsUp_24 (lv_at hl 9 rfl) ?_
      refine lv_aload_n hx hb dL_addsUp_26 rfl (lv_at hl 0 rfl) ?_
      refine lv_iconst (v := 0) hx hb dL_addsUp_27 (by decide) ?_
      obtain ⟨x1, hc1, hc⟩ := b1_some hc
      refine gc_VI (n := 1) (q0 := 0) (ci := 3) (w' := NW cy aN v1 v2 G v3) hx hb hml hown hts hK hP hD hS hA hl.1 ⟨Nat.le_refl _, Nat.le_refl _⟩ (C_X3_count l D cy aN v1 v2 G v3 0 x1 hc1) gL_addsUp_X3_count rfl (by decide +kernel) rfl ⟨by decide, by decide⟩ Jn.same rfl rfl rfl (Nat.le_of_ble_eq_true rfl) dL_addsUp_28 (fun H locs hP hD hS => ?_)
      refine lv_icmp_ge (tgt := 328) hx hb dL_addsUp_31 (by decide) (fun c2 => ?_) (fun c2 => ?_)
      · replace hc := ite_t c2 hc
        exact J328 y1 y2 y3 y4 y5 y6 y7 H locs ls hc hP hD hS (lv_sub hl [0, 1, 2, 3, 4, 5, 6, 7, 8] rfl)
      · replace hc := ite_f c2 hc
        refine lv_iload hx hb dL_addsUp_34 (lv_at hl 8 rfl) ?_
        refine lv_if_eq (tgt := 328) hx hb dL_addsUp_36 (by decide) (fun c9 => absurd c9 (by decide)) (fun _ => ?_)
        refine lv_iconst (v := 0) hx hb dL_addsUp_39 (by decide) ?_
        refine lv_istore (lv' := [(10, .int 0), (0, .ref (aN 0 0)), (1, .int y1), (2, .int y2), (3, .int y3), (4, .int y4), (5, .int y5), (6, .int y6), (7, .int y7), (8, .int 1), (9, .int y9)]) hx hb dL_addsUp_40 hl (by decide) rfl (fun ls hl => ?_)
        refine lv_iload hx hb dL_addsUp_42 (lv_at hl 10 rfl) ?_
        refine lv_iconst (v := 1) hx hb dL_addsUp_44 (by decide) ?_
        refine lv_iadd hx hb dL_addsUp_45 ?_
        refine lv_istore (lv' := [(11, .int (y9 + 1)), (10, .int 0), (0, .ref (aN 0 0)), (1, .int y1), (2, .int y2), (3, .int y3), (4, .int y4), (5, .int y5), (6, .int y6), (7, .int y7), (8, .int 1), (9, .int y9)]) hx hb dL_addsUp_46 hl (by decide) rfl (fun ls hl => ?_)
        exact L48 (f_L_addsUp_L24 v1 v2 G v3 n) ih FUEL y1 y2 y3 y4 y5 y6 y7 y9 0 (y9 + 1) H locs ls hc hP hD hS (lv_sub hl [2, 3, 4, 5, 6, 7, 8, 9, 10, 11, 1, 0] rfl)
  obtain ⟨H, hHe⟩ : ∃ H : Heap, H = s.heap := ⟨_, rfl⟩
  obtain ⟨locs, hLe⟩ : ∃ x : List Loc, x = [] := ⟨_, rfl⟩
  have hP : va_P D vwCl (NW cy aN v1 v2 G v3) H := by rw [hHe]; exact hP
  have hS : va_S A s.heap H locs := by rw [hHe, hLe]; exact hS
  have goal0 : W p l e (RM 3 69) s m args below meth c H locs 0 0 Q (F0 m 0 ls []) := by
    refine lv_iconst (v := 0) hx hb dL_addsUp_0 (by decide) ?_
    refine lv_istore_n (lv' := [(1, .int 0), (0, .ref (aN 0 0))]) hx hb dL_addsUp_1 rfl hl (by decide) rfl (fun ls hl => ?_)
    refine lv_iconst (v := 0) hx hb dL_addsUp_2 (by decide) ?_
    refine lv_istore_n (lv' := [(2, .int 0), (1, .int 0), (0, .ref (aN 0 0))]) hx hb dL_addsUp_3 rfl hl (by decide) rfl (fun ls hl => ?_)
    refine lv_iconst (v := 0) hx hb dL_addsUp_4 (by decide) ?_
    refine lv_istore_n (lv' := [(3, .int 0), (2, .int 0), (1, .int 0), (0, .ref (aN 0 0))]) hx hb dL_addsUp_5 rfl hl (by decide) rfl (fun ls hl => ?_)
    refine lv_iconst (v := 0) hx hb dL_addsUp_6 (by decide) ?_
    refine lv_istore (lv' := [(4, .int 0), (3, .int 0), (2, .int 0), (1, .int 0), (0, .ref (aN 0 0))]) hx hb dL_addsUp_7 hl (by decide) rfl (fun ls hl => ?_)
    refine lv_iconst (v := 0) hx hb dL_addsUp_9 (by decide) ?_
    refine lv_istore (lv' := [(5, .int 0), (4, .int 0), (3, .int 0), (2, .int 0), (1, .int 0), (0, .ref (aN 0 0))]) hx hb dL_addsUp_10 hl (by decide) rfl (fun ls hl => ?_)
    refine lv_iconst (v := 0) hx hb dL_addsUp_12 (by decide) ?_
    refine lv_istore (lv' := [(6, .int 0), (5, .int 0), (4, .int 0), (3, .int 0), (2, .int 0), (1, .int 0), (0, .ref (aN 0 0))]) hx hb dL_addsUp_13 hl (by decide) rfl (fun ls hl => ?_)
    refine lv_iconst (v := 0) hx hb dL_addsUp_15 (by decide) ?_
    refine lv_istore (lv' := [(7, .int 0), (6, .int 0), (5, .int 0), (4, .int 0), (3, .int 0), (2, .int 0), (1, .int 0), (0, .ref (aN 0 0))]) hx hb dL_addsUp_16 hl (by decide) rfl (fun ls hl => ?_)
    refine lv_iconst (v := 1) hx hb dL_addsUp_18 (by decide) ?_
    refine lv_istore (lv' := [(8, .int 1), (7, .int 0), (6, .int 0), (5, .int 0), (4, .int 0), (3, .int 0), (2, .int 0), (1, .int 0), (0, .ref (aN 0 0))]) hx hb dL_addsUp_19 hl (by decide) rfl (fun ls hl => ?_)
    refine lv_iconst (v := 0) hx hb dL_addsUp_21 (by decide) ?_
    refine lv_istore (lv' := [(9, .int 0), (8, .int 1), (7, .int 0), (6, .int 0), (5, .int 0), (4, .int 0), (3, .int 0), (2, .int 0), (1, .int 0), (0, .ref (aN 0 0))]) hx hb dL_addsUp_22 hl (by decide) rfl (fun ls hl => ?_)
    exact L24 FUEL 0 0 0 0 0 0 0 0 H locs ls hc hP hD hS (lv_sub hl [9, 8, 7, 6, 5, 4, 3, 2, 1, 0] rfl)
  rw [hHe, hLe] at goal0
  exact goal0
