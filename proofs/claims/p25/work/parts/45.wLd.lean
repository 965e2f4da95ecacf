set_option maxHeartbeats 40000000 in
set_option maxRecDepth 100000 in
theorem C_L_isDrawn (l : Launch) (D : va_G) (cy : Nat → ClassId) (aN : Nat → Nat → Nat) (v1 : FV) (v2 : FV) (G : (Nat → FV)) (v3 : FV) (p1 : Int32) (p2 : Int32) (r : Int32) (v1' : FV) (v2' : FV) (G' : (Nat → FV)) (v3' : FV) (hc : f_L_isDrawn v1 v2 G v3 p1 p2 = some (r, (v1', v2', G', v3'))) : ConI l yL_isDrawn wsL_isDrawn 5 187 D cy (fun (u : FV × FV × (Nat → FV) × FV) => NW cy aN u.1 u.2.1 u.2.2.1 u.2.2.2) [.ref (aN 0 0), .int p1, .int p2] ((v1, v2, G, v3)) ((v1', v2', G', v3')) r := by
  refine bodyI (cc := cL_isDrawn) (maxL := 11) (ty := .boolean) (by decide +kernel) rfl (Nat.le_of_ble_eq_true rfl) ?_
  intro p e s m args below meth c A Q hx hb hml hts hown hK hP hD hA hS hend ls hl
  have hown : s.vm.findClass RL = some m.cls := hown
  have hP : va_P D vwCl (NW cy aN v1 v2 G v3) s.heap := hP
  have hD : va_D A (NW cy aN v1 v2 G v3) := hD
  have hl : lv_has ls 11 [(0, .ref (aN 0 0)), (1, .int p1), (2, .int p2)] := hl
  have hend : ∀ (H : Heap) (locs : List Loc) (pc : Nat) (ls : Array Slot) (v : Int32) (v1 : FV) (v2 : FV) (G : (Nat → FV)) (v3 : FV), v = r → (v1, v2, G, v3) = (v1', v2', G', v3') → narrow .boolean (.int v) = .int v → va_P D vwCl (NW cy aN v1 v2 G v3) H → va_D A (NW cy aN v1 v2 G v3) → va_S A s.heap H locs → decode cL_isDrawn pc = .ok (.ireturn, 1) → W p l e (RM 5 187) s m args below meth c H locs 0 0 Q (F0 m pc ls [.int v]) := fun H locs pc ls v v1 v2 G v3 h1 h2 h3 h4 h5 h6 h7 => hend H locs pc ls v ((v1, v2, G, v3)) h1 h2 h3 h4 h5 h6 h7
  have J217 : ∀ (y1 : Int32) (y2 : Int32) (y3 : Int64) (y5 : Int32) (y7 : Int32) (y9 : Int32) (y10 : Int32) (z0 : Int32) (z1 : Int32) (v1 : FV) (v2 : FV) (G : (Nat → FV)) (v3 : FV) (H : Heap) (locs : List Loc) (ls : Array Slot), f_L_isDrawn_J217 y1 y2 y3 y5 y7 y9 y10 z0 z1 v1 v2 G v3 = some (r, (v1', v2', G', v3')) → va_P D vwCl (NW cy aN v1 v2 G v3) H → va_D A (NW cy aN v1 v2 G v3) → va_S A s.heap H locs → lv_has ls 11 [(0, .ref (aN 0 0)), (1, .int y1), (2, .int y2), (3, .long y3), (5, .int y5), (7, .int y7), (9, .int y9), (10, .int y10)] → W p l e (RM 5 187) s m args below meth c H locs 0 0 Q (F0 m 217 ls [.int z0, .int z1]) := by
    intro y1 y2 y3 y5 y7 y9 y10 z0 z1 v1 v2 G v3 H locs ls hc hP hD hS hl
    refine lv_icmp_ne (tgt := 293) hx hb dL_isDrawn_217 (by decide) (fun c13 => ?_) (fun c13 => ?_)
    · replace hc := ite_f c13 hc
      cases hc
    · replace hc := ite_t c13 hc
      refine lv_aload_n hx hb dL_isDrawn_220 rfl (lv_at hl 0 rfl) ?_
      refine lv_iload_n hx hb dL_isDrawn_221 rfl (lv_at hl 1 rfl) ?_
      refine lv_iload_n hx hb dL_isDrawn_222 rfl (lv_at hl 2 rfl) ?_
      obtain ⟨x14, t14, hc14, hc⟩ := b2_some hc
      refine gc_VI (n := 2) (q0 := 0) (ci := 3) (w' := NW cy aN t14.1 t14.2.1 t14.2.2.1 t14.2.2.2) hx hb hml hown hts hK hP hD hS hA hl.1 ⟨Nat.le_refl _, Nat.le_refl _⟩ (C_X3_draw l D cy aN v1 v2 G v3 y1 y2 x14 t14.1 t14.2.1 t14.2.2.1 t14.2.2.2 hc14) gL_isDrawn_X3_draw rfl (by decide +kernel) rfl ⟨by decide, by decide⟩ Jn.same rfl rfl rfl (Nat.le_of_ble_eq_true rfl) dL_isDrawn_223 (fun H locs hP hD hS => ?_)
      refine lv_iload_n hx hb dL_isDrawn_226 rfl (lv_at hl 2 rfl) ?_
      refine lv_iload hx hb dL_isDrawn_227 (lv_at hl 5 rfl) ?_
      refine lv_isub hx hb dL_isDrawn_229 ?_
      refine lv_icmp_ne (tgt := 293) hx hb dL_isDrawn_230 (by decide) (fun c15 => ?_) (fun c15 => ?_)
      · replace hc := ite_f c15 hc
        cases hc
      · replace hc := ite_t c15 hc
        refine lv_aload_n hx hb dL_isDrawn_233 rfl (lv_at hl 0 rfl) ?_
        refine lv_bipush (v := 6) hx hb dL_isDrawn_234 (by decide +kernel) ?_
        obtain ⟨x16, hc16, hc⟩ := b1_some hc
        refine gc_VI (n := 1) (q0 := 0) (ci := 3) (w' := NW cy aN t14.1 t14.2.1 t14.2.2.1 t14.2.2.2) hx hb hml hown hts hK hP hD hS hA hl.1 ⟨Nat.le_refl _, Nat.le_refl _⟩ (C_X3_count l D cy aN t14.1 t14.2.1 t14.2.2.1 t14.2.2.2 6 x16 hc16) gL_isDrawn_X3_count rfl (by decide +kernel) rfl ⟨by decide, by decide⟩ Jn.same rfl rfl rfl (Nat.le_of_ble_eq_true rfl) dL_isDrawn_236 (fun H locs hP hD hS => ?_)
        refine lv_iload hx hb dL_isDrawn_239 (lv_at hl 6 rfl) ?_
        refine lv_iload_n hx hb dL_isDrawn_241 rfl (lv_at hl 2 rfl) ?_
        refine lv_iadd hx hb dL_isDrawn_242 ?_
        refine lv_icmp_ne (tgt := 293) hx hb dL_isDrawn_243 (by decide) (fun c17 => ?_) (fun c17 => ?_)
        · replace hc := ite_f c17 hc
          cases hc
        · replace hc := ite_t c17 hc
          refine lv_aload_n hx hb dL_isDrawn_246 rfl (lv_at hl 0 rfl) ?_
          refine lv_iload_n hx hb dL_isDrawn_247 rfl (lv_at hl 1 rfl) ?_
          obtain ⟨x18, t18, hc18, hc⟩ := b2_some hc
          refine gc_VI (n := 1) (q0 := 0) (ci := 3) (w' := NW cy aN t18.1 t18.2.1 t18.2.2.1 t18.2.2.2) hx hb hml hown hts hK hP hD hS hA hl.1 ⟨Nat.le_refl _, Nat.le_refl _⟩ (C_X3_able l D cy aN t14.1 t14.2.1 t14.2.2.1 t14.2.2.2 y1 x18 t18.1 t18.2.1 t18.2.2.1 t18.2.2.2 hc18) gL_isDrawn_X3_able rfl (by decide +kernel) rfl ⟨by decide, by decide⟩ Jn.same rfl rfl rfl (Nat.le_of_ble_eq_true rfl) dL_isDrawn_248 (fun H locs hP hD hS => ?_)
          refine lv_iload hx hb dL_isDrawn_251 (lv_at hl 4 rfl) ?_
          refine lv_iload hx hb dL_isDrawn_253 (lv_at hl 5 rfl) ?_
          refine lv_isub hx hb dL_isDrawn_255 ?_
          refine lv_icmp_gt (tgt := 293) hx hb dL_isDrawn_256 (by decide) (fun c19 => ?_) (fun c19 => ?_)
          · replace hc := ite_t c19 hc
            cases hc
          · replace hc := ite_f c19 hc
            refine lv_aload_n hx hb dL_isDrawn_259 rfl (lv_at hl 0 rfl) ?_
            refine lv_iload_n hx hb dL_isDrawn_260 rfl (lv_at hl 1 rfl) ?_
            refine lv_iconst (v := 4) hx hb dL_isDrawn_261 (by decide) ?_
            obtain ⟨x20, hc20, hc⟩ := b1_some hc
            refine gc_VI (n := 2) (q0 := 0) (ci := 3) (w' := NW cy aN t18.1 t18.2.1 t18.2.2.1 t18.2.2.2) hx hb hml hown hts hK hP hD hS hA hl.1 ⟨Nat.le_refl _, Nat.le_refl _⟩ (C_X3_wellOf l D cy aN t18.1 t18.2.1 t18.2.2.1 t18.2.2.2 y1 4 x20 hc20) gL_isDrawn_X3_wellOf rfl (by decide +kernel) rfl ⟨by decide, by decide⟩ Jn.same rfl rfl rfl (Nat.le_of_ble_eq_true rfl) dL_isDrawn_262 (fun H locs hP hD hS => ?_)
            refine lv_iload hx hb dL_isDrawn_265 (lv_at hl 7 rfl) ?_
            refine lv_iload hx hb dL_isDrawn_267 (lv_at hl 5 rfl) ?_
            refine lv_isub hx hb dL_isDrawn_269 ?_
            refine lv_icmp_ne (tgt := 293) hx hb dL_isDrawn_270 (by decide) (fun c21 => ?_) (fun c21 => ?_)
            · replace hc := ite_f c21 hc
              cases hc
            · replace hc := ite_t c21 hc
              refine lv_aload_n hx hb dL_isDrawn_273 rfl (lv_at hl 0 rfl) ?_
              obtain ⟨x22, t22, hc22, hc⟩ := b2_some hc
              refine gc_VI (n := 0) (q0 := 0) (ci := 3) (w' := NW cy aN t22.1 t22.2.1 t22.2.2.1 t22.2.2.2) hx hb hml hown hts hK hP hD hS hA hl.1 ⟨Nat.le_refl _, Nat.le_refl _⟩ (C_X3_undo l D cy aN t18.1 t18.2.1 t18.2.2.1 t18.2.2.2 x22 t22.1 t22.2.1 t22.2.2.1 t22.2.2.2 hc22) gL_isDrawn_X3_undo rfl (by decide +kernel) rfl ⟨by decide, by decide⟩ Jn.same rfl rfl rfl (Nat.le_of_ble_eq_true rfl) dL_isDrawn_274 (fun H locs hP hD hS => ?_)
              refine lv_if_lt (tgt := 293) hx hb dL_isDrawn_277 (by decide) (fun c23 => ?_) (fun c23 => ?_)
              · replace hc := ite_t c23 hc
                cases hc
              · replace hc := ite_f c23 hc
                refine lv_aload_n hx hb dL_isDrawn_280 rfl (lv_at hl 0 rfl) ?_
                obtain ⟨x24, hc24, hc⟩ := b1_some hc
                refine gc_SL (n := 1) (w' := NW cy aN t22.1 t22.2.1 t22.2.2.1 t22.2.2.2) hx hb hml hown hts hK hP hD hS hA hl.1 ⟨Nat.le_refl _, Nat.le_refl _⟩ (C_L_print l D cy aN t22.1 t22.2.1 t22.2.2.1 t22.2.2.2 x24 hc24) gL_isDrawn_L_print rfl (by decide +kernel) rfl ⟨by decide, by decide⟩ Jn.same rfl (Nat.le_of_ble_eq_true rfl) dL_isDrawn_281 (fun H locs hP hD hS => ?_)
                refine lv_lload_n hx hb dL_isDrawn_284 rfl (lv_at hl 3 rfl) ?_
                refine W.lcmp hx hb dL_isDrawn_285 ?_
                by_cases c25 : x24 = y3
                · replace hc := ite_t c25 hc
                  rw [show lg_cmp x24 y3 = 0 by rw [c25]; simp [lg_cmp]]
                  refine lv_if_ne (tgt := 293) hx hb dL_isDrawn_286 (by decide) (fun c9 => absurd rfl c9) (fun _ => ?_)
                  refine lv_iconst (v := 1) hx hb dL_isDrawn_289 (by decide) ?_
                  refine lv_goto (tgt := 294) hx hb dL_isDrawn_290 (by decide) ?_
                  exact hend H locs _ _ _ _ _ _ _ (some_fst hc) (some_snd hc) rfl hP hD hS dL_isDrawn_294
                · replace hc := ite_f c25 hc
                  cases hc
  have J176 : ∀ (y1 : Int32) (y2 : Int32) (y3 : Int64) (y5 : Int32) (y6 : Int32) (y7 : Int32) (v1 : FV) (v2 : FV) (G : (Nat → FV)) (v3 : FV) (H : Heap) (locs : List Loc) (ls : Array Slot), f_L_isDrawn_J176 y1 y2 y3 y5 y6 y7 v1 v2 G v3 = some (r, (v1', v2', G', v3')) → va_P D vwCl (NW cy aN v1 v2 G v3) H → va_D A (NW cy aN v1 v2 G v3) → va_S A s.heap H locs → lv_has ls 11 [(0, .ref (aN 0 0)), (1, .int y1), (2, .int y2), (3, .long y3), (5, .int y5), (6, .int y6), (7, .int y7), (8, .int 1)] → W p l e (RM 5 187) s m args below meth c H locs 0 0 Q (F0 m 176 ls []) := by
    intro y1 y2 y3 y5 y6 y7 v1 v2 G v3 H locs ls hc hP hD hS hl
    refine lv_aload_n hx hb dL_isDrawn_176 rfl (lv_at hl 0 rfl) ?_
    refine lv_bipush (v := 6) hx hb dL_isDrawn_177 (by decide +kernel) ?_
    obtain ⟨x9, hc9, hc⟩ := b1_some hc
    refine gc_VI (n := 1) (q0 := 0) (ci := 3) (w' := NW cy aN v1 v2 G v3) hx hb hml hown hts hK hP hD hS hA hl.1 ⟨Nat.le_refl _, Nat.le_refl _⟩ (C_X3_count l D cy aN v1 v2 G v3 6 x9 hc9) gL_isDrawn_X3_count rfl (by decide +kernel) rfl ⟨by decide, by decide⟩ Jn.same rfl rfl rfl (Nat.le_of_ble_eq_true rfl) dL_isDrawn_179 (fun H locs hP hD hS => ?_)
    refine lv_istore (lv' := [(9, .int x9), (0, .ref (aN 0 0)), (1, .int y1), (2, .int y2), (3, .long y3), (5, .int y5), (6, .int y6), (7, .int y7), (8, .int 1)]) hx hb dL_isDrawn_182 hl (by decide) rfl (fun ls hl => ?_)
    refine lv_aload_n hx hb dL_isDrawn_184 rfl (lv_at hl 1 rfl) ?_
    refine lv_iload_n hx hb dL_isDrawn_185 rfl (lv_at hl 2 rfl) ?_
    refine lv_iconst (v := 4) hx hb dL_isDrawn_186 (by decide) ?_
    obtain ⟨x10, hc10, hc⟩ := b1_some hc
    refine gc_VI (n := 2) (q0 := 0) (ci := 3) (w' := NW cy aN v1 v2 G v3) hx hb hml hown hts hK hP hD hS hA hl.1 ⟨Nat.le_refl _, Nat.le_refl _⟩ (C_X3_wellOf l D cy aN v1 v2 G v3 y1 4 x10 hc10) gL_isDrawn_X3_wellOf rfl (by decide +kernel) rfl ⟨by decide, by decide⟩ Jn.same rfl rfl rfl (Nat.le_of_ble_eq_true rfl) dL_isDrawn_187 (fun H locs hP hD hS => ?_)
    refine lv_istore (lv' := [(10, .int x10), (9, .int x9), (0, .ref (aN 0 0)), (1, .int y1), (2, .int y2), (3, .long y3), (5, .int y5), (6, .int y6), (7, .int y7), (8, .int 1)]) hx hb dL_isDrawn_190 hl (by decide) rfl (fun ls hl => ?_)
    refine lv_iload hx hb dL_isDrawn_192 (lv_at hl 9 rfl) ?_
    refine lv_if_eq (tgt := 293) hx hb dL_isDrawn_194 (by decide) (fun c9 => absurd c9 (by decide)) (fun _ => ?_)
    refine lv_iload hx hb dL_isDrawn_197 (lv_at hl 7 rfl) ?_
    refine lv_iload_n hx hb dL_isDrawn_199 rfl (lv_at hl 4 rfl) ?_
    refine lv_icmp_ne (tgt := 293) hx hb dL_isDrawn_200 (by decide) (fun c11 => ?_) (fun c11 => ?_)
    · replace hc := ite_f c11 hc
      cases hc
    · replace hc := ite_t c11 hc
      refine lv_iload hx hb dL_isDrawn_203 (lv_at hl 8 rfl) ?_
      refine lv_iload hx hb dL_isDrawn_205 (lv_at hl 0 rfl) ?_
      refine lv_iload_n hx hb dL_isDrawn_207 rfl (lv_at hl 4 rfl) ?_
      refine lv_icmp_ge (tgt := 216) hx hb dL_isDrawn_208 (by decide) (fun c12 => ?_) (fun c12 => ?_)
      · replace hc := ite_t c12 hc
        refine lv_iload_n hx hb dL_isDrawn_216 rfl (lv_at hl 4 rfl) ?_
        exact J217 y1 y2 y3 y5 y7 x9 x10 y2 y7 v1 v2 G v3 H locs ls hc hP hD hS (lv_sub hl [2, 3, 4, 5, 6, 8, 1, 0] rfl)
      · replace hc := ite_f c12 hc
        refine lv_iload hx hb dL_isDrawn_211 (lv_at hl 0 rfl) ?_
        refine lv_goto (tgt := 217) hx hb dL_isDrawn_213 (by decide) ?_
        exact J217 y1 y2 y3 y5 y7 x9 x10 x10 y7 v1 v2 G v3 H locs ls hc hP hD hS (lv_sub hl [2, 3, 4, 5, 6, 8, 1, 0] rfl)
  have J163 : ∀ (k96 : Int32 → Int32 → Int64 → Int32 → Int32 → Int32 → Int32 → FV → FV → (Nat → FV) → FV → Option (Int32 × (FV × FV × (Nat → FV) × FV))) (hk96 : ∀ (y1 : Int32) (y2 : Int32) (y3 : Int64) (y5 : Int32) (y6 : Int32) (y7 : Int32) (y9 : Int32) (v1 : FV) (v2 : FV) (G : (Nat → FV)) (v3 : FV) (H : Heap) (locs : List Loc) (ls : Array Slot), k96 y1 y2 y3 y5 y6 y7 y9 v1 v2 G v3 = some (r, (v1', v2', G', v3')) → va_P D vwCl (NW cy aN v1 v2 G v3) H → va_D A (NW cy aN v1 v2 G v3) → va_S A s.heap H locs → lv_has ls 11 [(0, .ref (aN 0 0)), (1, .int y1), (2, .int y2), (3, .long y3), (5, .int y5), (6, .int y6), (7, .int y7), (8, .int 1), (9, .int y9)] → W p l e (RM 5 187) s m args below meth c H locs 0 0 Q (F0 m 96 ls [])), ∀ (y1 : Int32) (y2 : Int32) (y3 : Int64) (y5 : Int32) (y6 : Int32) (y7 : Int32) (y9 : Int32) (v1 : FV) (v2 : FV) (G : (Nat → FV)) (v3 : FV) (H : Heap) (locs : List Loc) (ls : Array Slot), f_L_isDrawn_J163 k96 y1 y2 y3 y5 y6 y7 y9 v1 v2 G v3 = some (r, (v1', v2', G', v3')) → va_P D vwCl (NW cy aN v1 v2 G v3) H → va_D A (NW cy aN v1 v2 G v3) → va_S A s.heap H locs → lv_has ls 11 [(0, .ref (aN 0 0)), (1, .int y1), (2, .int y2), (3, .long y3), (5, .int y5), (6, .int y6), (7, .int y7), (9, .int y9)] → W p l e (RM 5 187) s m args below meth c H locs 0 0 Q (F0 m 163 ls []) := by
    intro k96 hk96 y1 y2 y3 y5 y6 y7 y9 v1 v2 G v3 H locs ls hc hP hD hS hl
    refine lv_iconst (v := 1) hx hb dL_isDrawn_163 (by decide) ?_
    refine lv_goto (tgt := 168) hx hb dL_isDrawn_164 (by decide) ?_
    refine lv_istore (lv' := [(8, .int 1), (0, .ref (aN 0 0)), (1, .int y1), (2, .int y2), (3, .long y3), (5, .int y5), (6, .int y6), (7, .int y7), (9, .int y9)]) hx hb dL_isDrawn_168 hl (by decide) rfl (fun ls hl => ?_)
    refine lv_iinc (v := y9 + 1) (lv' := [(9, .int (y9 + 1)), (8, .int 1), (0, .ref (aN 0 0)), (1, .int y1), (2, .int y2), (3, .long y3), (5, .int y5), (6, .int y6), (7, .int y7)]) hx hb dL_isDrawn_170 hl (k := 8) rfl rfl (by decide) rfl (fun ls hl => ?_)
    refine lv_goto (tgt := 96) hx hb dL_isDrawn_173 (by decide) ?_
    exact hk96 y1 y2 y3 y5 y6 y7 (y9 + 1) v1 v2 G v3 H locs ls hc hP hD hS (lv_sub hl [2, 3, 4, 5, 6, 7, 8, 1, 0] rfl)
  have L96 : ∀ (n : Nat), ∀ (y1 : Int32) (y2 : Int32) (y3 : Int64) (y5 : Int32) (y6 : Int32) (y7 : Int32) (y9 : Int32) (v1 : FV) (v2 : FV) (G : (Nat → FV)) (v3 : FV) (H : Heap) (locs : List Loc) (ls : Array Slot), f_L_isDrawn_L96 n y1 y2 y3 y5 y6 y7 y9 v1 v2 G v3 = some (r, (v1', v2', G', v3')) → va_P D vwCl (NW cy aN v1 v2 G v3) H → va_D A (NW cy aN v1 v2 G v3) → va_S A s.heap H locs → lv_has ls 11 [(0, .ref (aN 0 0)), (1, .int y1), (2, .int y2), (3, .long y3), (5, .int y5), (6, .int y6), (7, .int y7), (8, .int 1), (9, .int y9)] → W p l e (RM 5 187) s m args below meth c H locs 0 0 Q (F0 m 96 ls []) := by
    intro n
    induction n with
    | zero =>
      intro y1 y2 y3 y5 y6 y7 y9 v1 v2 G v3 H locs ls hc
      cases hc
    | succ n ih =>
      intro y1 y2 y3 y5 y6 y7 y9 v1 v2 G v3 H locs ls hc hP hD hS hl
      unfold f_L_isDrawn_L96 at hc
      refine lv_iload hx hb dL_isDrawn_96 (lv_at hl 8 rfl) ?_
      refine lv_aload_n hx hb dL_isDrawn_98 rfl (lv_at hl 0 rfl) ?_
      refine lv_iconst (v := 0) hx hb dL_isDrawn_99 (by decide) ?_
      obtain ⟨x7, hc7, hc⟩ := b1_some hc
      refine gc_VI (n := 1) (q0 := 0) (ci := 3) (w' := NW cy aN v1 v2 G v3) hx hb hml hown hts hK hP hD hS hA hl.1 ⟨Nat.le_refl _, Nat.le_refl _⟩ (C_X3_count l D cy aN v1 v2 G v3 0 x7 hc7) gL_isDrawn_X3_count rfl (by decide +kernel) rfl ⟨by decide, by decide⟩ Jn.same rfl rfl rfl (Nat.le_of_ble_eq_true rfl) dL_isDrawn_100 (fun H locs hP hD hS => ?_)
      refine lv_icmp_ge (tgt := 176) hx hb dL_isDrawn_103 (by decide) (fun c8 => ?_) (fun c8 => ?_)
      · replace hc := ite_t c8 hc
        exact J176 y1 y2 y3 y5 y6 y7 v1 v2 G v3 H locs ls hc hP hD hS (lv_sub hl [0, 1, 2, 3, 4, 5, 6, 7] rfl)
      · replace hc := ite_f c8 hc
        refine lv_iload hx hb dL_isDrawn_106 (lv_at hl 7 rfl) ?_
        refine lv_if_eq (tgt := 176) hx hb dL_isDrawn_108 (by decide) (fun c9 => absurd c9 (by decide)) (fun _ => ?_)
        refine lv_aload_n hx hb dL_isDrawn_111 rfl (lv_at hl 0 rfl) ?_
        refine lv_iload_n hx hb dL_isDrawn_112 rfl (lv_at hl 1 rfl) ?_
        refine lv_iload_n hx hb dL_isDrawn_113 rfl (lv_at hl 2 rfl) ?_
        refine lv_iload hx hb dL_isDrawn_114 (lv_at hl 8 rfl) ?_
        obtain ⟨x26, t26, hc26, hc⟩ := b2_some hc
        refine gc_VI (n := 3) (q0 := 0) (ci := 3) (w' := NW cy aN t26.1 t26.2.1 t26.2.2.1 t26.2.2.2) hx hb hml hown hts hK hP hD hS hA hl.1 ⟨Nat.le_refl _, Nat.le_refl _⟩ (C_X3_gives l D cy aN v1 v2 G v3 y1 y2 y9 x26 t26.1 t26.2.1 t26.2.2.1 t26.2.2.2 hc26) gL_isDrawn_X3_gives rfl (by decide +kernel) rfl ⟨by decide, by decide⟩ Jn.same rfl rfl rfl (Nat.le_of_ble_eq_true rfl) dL_isDrawn_116 (fun H locs hP hD hS => ?_)
        refine lv_istore (lv' := [(10, .int x26), (0, .ref (aN 0 0)), (1, .int y1), (2, .int y2), (3, .long y3), (5, .int y5), (6, .int y6), (7, .int y7), (8, .int 1), (9, .int y9)]) hx hb dL_isDrawn_119 hl (by decide) rfl (fun ls hl => ?_)
        refine lv_iload hx hb dL_isDrawn_121 (lv_at hl 6 rfl) ?_
        refine lv_iload hx hb dL_isDrawn_123 (lv_at hl 0 rfl) ?_
        refine lv_iadd hx hb dL_isDrawn_125 ?_
        refine lv_istore (lv' := [(6, .int (y6 + x26)), (10, .int x26), (0, .ref (aN 0 0)), (1, .int y1), (2, .int y2), (3, .long y3), (5, .int y5), (7, .int y7), (8, .int 1), (9, .int y9)]) hx hb dL_isDrawn_126 hl (by decide) rfl (fun ls hl => ?_)
        refine lv_iload hx hb dL_isDrawn_128 (lv_at hl 1 rfl) ?_
        refine lv_if_lt (tgt := 167) hx hb dL_isDrawn_130 (by decide) (fun c27 => ?_) (fun c27 => ?_)
        · replace hc := ite_t c27 hc
          cases hc
        · replace hc := ite_f c27 hc
          refine lv_iload hx hb dL_isDrawn_133 (lv_at hl 1 rfl) ?_
          refine lv_aload_n hx hb dL_isDrawn_135 rfl (lv_at hl 2 rfl) ?_
          refine lv_iload hx hb dL_isDrawn_136 (lv_at hl 9 rfl) ?_
          refine lv_iconst (v := 4) hx hb dL_isDrawn_138 (by decide) ?_
          obtain ⟨x28, hc28, hc⟩ := b1_some hc
          refine gc_VI (n := 2) (q0 := 0) (ci := 3) (w' := NW cy aN t26.1 t26.2.1 t26.2.2.1 t26.2.2.2) hx hb hml hown hts hK hP hD hS hA hl.1 ⟨Nat.le_refl _, Nat.le_refl _⟩ (C_X3_wellOf l D cy aN t26.1 t26.2.1 t26.2.2.1 t26.2.2.2 y9 4 x28 hc28) gL_isDrawn_X3_wellOf rfl (by decide +kernel) rfl ⟨by decide, by decide⟩ Jn.same rfl rfl rfl (Nat.le_of_ble_eq_true rfl) dL_isDrawn_139 (fun H locs hP hD hS => ?_)
          refine lv_icmp_gt (tgt := 167) hx hb dL_isDrawn_142 (by decide) (fun c29 => ?_) (fun c29 => ?_)
          · replace hc := ite_t c29 hc
            cases hc
          · replace hc := ite_f c29 hc
            refine lv_iload hx hb dL_isDrawn_145 (lv_at hl 9 rfl) ?_
            refine lv_iload_n hx hb dL_isDrawn_147 rfl (lv_at hl 3 rfl) ?_
            refine lv_icmp_eq (tgt := 163) hx hb dL_isDrawn_148 (by decide) (fun c30 => ?_) (fun c30 => ?_)
            · replace hc := ite_t c30 hc
              exact J163 (f_L_isDrawn_L96 n) ih y1 y2 y3 y5 (y6 + x26) y7 y9 t26.1 t26.2.1 t26.2.2.1 t26.2.2.2 H locs ls hc hP hD hS (lv_sub hl [2, 3, 4, 5, 6, 0, 7, 9] rfl)
            · replace hc := ite_f c30 hc
              refine lv_iload hx hb dL_isDrawn_151 (lv_at hl 1 rfl) ?_
              refine lv_aload_n hx hb dL_isDrawn_153 rfl (lv_at hl 2 rfl) ?_
              refine lv_iload hx hb dL_isDrawn_154 (lv_at hl 9 rfl) ?_
              refine lv_iconst (v := 3) hx hb dL_isDrawn_156 (by decide) ?_
              obtain ⟨x31, hc31, hc⟩ := b1_some hc
              refine gc_VI (n := 2) (q0 := 0) (ci := 3) (w' := NW cy aN t26.1 t26.2.1 t26.2.2.1 t26.2.2.2) hx hb hml hown hts hK hP hD hS hA hl.1 ⟨Nat.le_refl _, Nat.le_refl _⟩ (C_X3_wellOf l D cy aN t26.1 t26.2.1 t26.2.2.1 t26.2.2.2 y9 3 x31 hc31) gL_isDrawn_X3_wellOf rfl (by decide +kernel) rfl ⟨by decide, by decide⟩ Jn.same rfl rfl rfl (Nat.le_of_ble_eq_true rfl) dL_isDrawn_157 (fun H locs hP hD hS => ?_)
              refine lv_icmp_gt (tgt := 167) hx hb dL_isDrawn_160 (by decide) (fun c32 => ?_) (fun c32 => ?_)
              · replace hc := ite_t c32 hc
                cases hc
              · replace hc := ite_f c32 hc
                exact J163 (f_L_isDrawn_L96 n) ih y1 y2 y3 y5 (y6 + x26) y7 y9 t26.1 t26.2.1 t26.2.2.1 t26.2.2.2 H locs ls hc hP hD hS (lv_sub hl [2, 3, 4, 5, 6, 0, 7, 9] rfl)
  obtain ⟨H, hHe⟩ : ∃ H : Heap, H = s.heap := ⟨_, rfl⟩
  obtain ⟨locs, hLe⟩ : ∃ x : List Loc, x = [] := ⟨_, rfl⟩
  have hP : va_P D vwCl (NW cy aN v1 v2 G v3) H := by rw [hHe]; exact hP
  have hS : va_S A s.heap H locs := by rw [hHe, hLe]; exact hS
  have goal0 : W p l e (RM 5 187) s m args below meth c H locs 0 0 Q (F0 m 0 ls []) := by
    refine lv_aload_n hx hb dL_isDrawn_0 rfl (lv_at hl 0 rfl) ?_
    obtain ⟨x1, hc1, hc⟩ := b1_some hc
    refine gc_SL (n := 1) (w' := NW cy aN v1 v2 G v3) hx hb hml hown hts hK hP hD hS hA hl.1 ⟨Nat.le_refl _, Nat.le_refl _⟩ (C_L_print l D cy aN v1 v2 G v3 x1 hc1) gL_isDrawn_L_print rfl (by decide +kernel) rfl ⟨by decide, by decide⟩ Jn.same rfl (Nat.le_of_ble_eq_true rfl) dL_isDrawn_1 (fun H locs hP hD hS => ?_)
    refine lv_lstore_n (lv' := [(3, .long x1), (0, .ref (aN 0 0)), (1, .int p1), (2, .int p2)]) hx hb dL_isDrawn_4 rfl hl (by decide) rfl (fun ls hl => ?_)
    refine lv_aload_n hx hb dL_isDrawn_5 rfl (lv_at hl 1 rfl) ?_
    refine lv_iload_n hx hb dL_isDrawn_6 rfl (lv_at hl 2 rfl) ?_
    obtain ⟨x2, t2, hc2, hc⟩ := b2_some hc
    refine gc_VI (n := 1) (q0 := 0) (ci := 3) (w' := NW cy aN t2.1 t2.2.1 t2.2.2.1 t2.2.2.2) hx hb hml hown hts hK hP hD hS hA hl.1 ⟨Nat.le_refl _, Nat.le_refl _⟩ (C_X3_able l D cy aN v1 v2 G v3 p1 x2 t2.1 t2.2.1 t2.2.2.1 t2.2.2.2 hc2) gL_isDrawn_X3_able rfl (by decide +kernel) rfl ⟨by decide, by decide⟩ Jn.same rfl rfl rfl (Nat.le_of_ble_eq_true rfl) dL_isDrawn_7 (fun H locs hP hD hS => ?_)
    refine lv_istore (lv' := [(5, .int x2), (3, .long x1), (0, .ref (aN 0 0)), (1, .int p1), (2, .int p2)]) hx hb dL_isDrawn_10 hl (by decide) rfl (fun ls hl => ?_)
    refine lv_iload_n hx hb dL_isDrawn_12 rfl (lv_at hl 4 rfl) ?_
    refine lv_iload hx hb dL_isDrawn_13 (lv_at hl 0 rfl) ?_
    refine lv_icmp_le (tgt := 65) hx hb dL_isDrawn_15 (by decide) (fun c3 => ?_) (fun c3 => ?_)
    · replace hc := ite_t c3 hc
      refine lv_iconst (v := 0) hx hb dL_isDrawn_65 (by decide) ?_
      refine lv_istore (lv' := [(6, .int 0), (5, .int x2), (3, .long x1), (0, .ref (aN 0 0)), (1, .int p1), (2, .int p2)]) hx hb dL_isDrawn_66 hl (by decide) rfl (fun ls hl => ?_)
      refine lv_aload_n hx hb dL_isDrawn_68 rfl (lv_at hl 3 rfl) ?_
      refine lv_iload_n hx hb dL_isDrawn_69 rfl (lv_at hl 4 rfl) ?_
      refine lv_iload_n hx hb dL_isDrawn_70 rfl (lv_at hl 5 rfl) ?_
      refine lv_iload_n hx hb dL_isDrawn_71 rfl (lv_at hl 4 rfl) ?_
      obtain ⟨x4, t4, hc4, hc⟩ := b2_some hc
      refine gc_VI (n := 3) (q0 := 0) (ci := 3) (w' := NW cy aN t4.1 t4.2.1 t4.2.2.1 t4.2.2.2) hx hb hml hown hts hK hP hD hS hA hl.1 ⟨Nat.le_refl _, Nat.le_refl _⟩ (C_X3_gives l D cy aN t2.1 t2.2.1 t2.2.2.1 t2.2.2.2 p1 p2 p1 x4 t4.1 t4.2.1 t4.2.2.1 t4.2.2.2 hc4) gL_isDrawn_X3_gives rfl (by decide +kernel) rfl ⟨by decide, by decide⟩ Jn.same rfl rfl rfl (Nat.le_of_ble_eq_true rfl) dL_isDrawn_72 (fun H locs hP hD hS => ?_)
      refine lv_istore (lv' := [(7, .int x4), (6, .int 0), (5, .int x2), (3, .long x1), (0, .ref (aN 0 0)), (1, .int p1), (2, .int p2)]) hx hb dL_isDrawn_75 hl (by decide) rfl (fun ls hl => ?_)
      refine lv_aload_n hx hb dL_isDrawn_77 rfl (lv_at hl 4 rfl) ?_
      refine lv_iload_n hx hb dL_isDrawn_78 rfl (lv_at hl 5 rfl) ?_
      refine lv_iload_n hx hb dL_isDrawn_79 rfl (lv_at hl 6 rfl) ?_
      obtain ⟨x5, t5, hc5, hc⟩ := b2_some hc
      refine gc_VI (n := 2) (q0 := 0) (ci := 3) (w' := NW cy aN t5.1 t5.2.1 t5.2.2.1 t5.2.2.2) hx hb hml hown hts hK hP hD hS hA hl.1 ⟨Nat.le_refl _, Nat.le_refl _⟩ (C_X3_possibleIn l D cy aN t4.1 t4.2.1 t4.2.2.1 t4.2.2.2 p1 p2 x5 t5.1 t5.2.1 t5.2.2.1 t5.2.2.2 hc5) gL_isDrawn_X3_possibleIn rfl (by decide +kernel) rfl ⟨by decide, by decide⟩ Jn.same rfl rfl rfl (Nat.le_of_ble_eq_true rfl) dL_isDrawn_80 (fun H locs hP hD hS => ?_)
      refine lv_if_ne (tgt := 90) hx hb dL_isDrawn_83 (by decide) (fun c6 => ?_) (fun c6 => ?_)
      · replace hc := ite_f c6 hc
        cases hc
      · replace hc := ite_t c6 hc
        refine lv_iconst (v := 1) hx hb dL_isDrawn_86 (by decide) ?_
        refine lv_goto (tgt := 91) hx hb dL_isDrawn_87 (by decide) ?_
        refine lv_istore (lv' := [(8, .int 1), (7, .int x4), (6, .int 0), (5, .int x2), (3, .long x1), (0, .ref (aN 0 0)), (1, .int p1), (2, .int p2)]) hx hb dL_isDrawn_91 hl (by decide) rfl (fun ls hl => ?_)
        refine lv_iconst (v := 0) hx hb dL_isDrawn_93 (by decide) ?_
        refine lv_istore (lv' := [(9, .int 0), (8, .int 1), (7, .int x4), (6, .int 0), (5, .int x2), (3, .long x1), (0, .ref (aN 0 0)), (1, .int p1), (2, .int p2)]) hx hb dL_isDrawn_94 hl (by decide) rfl (fun ls hl => ?_)
        exact L96 FUEL p1 p2 x1 x2 0 x4 0 t5.1 t5.2.1 t5.2.2.1 t5.2.2.2 H locs ls hc hP hD hS (lv_sub hl [6, 7, 8, 5, 4, 3, 2, 1, 0] rfl)
    · replace hc := ite_f c3 hc
      refine lv_aload_n hx hb dL_isDrawn_18 rfl (lv_at hl 2 rfl) ?_
      refine lv_iload_n hx hb dL_isDrawn_19 rfl (lv_at hl 3 rfl) ?_
      refine lv_iload_n hx hb dL_isDrawn_20 rfl (lv_at hl 4 rfl) ?_
      obtain ⟨x33, t33, hc33, hc⟩ := b2_some hc
      refine gc_VI (n := 2) (q0 := 0) (ci := 3) (w' := NW cy aN t33.1 t33.2.1 t33.2.2.1 t33.2.2.2) hx hb hml hown hts hK hP hD hS hA hl.1 ⟨Nat.le_refl _, Nat.le_refl _⟩ (C_X3_draw l D cy aN t2.1 t2.2.1 t2.2.2.1 t2.2.2.2 p1 p2 x33 t33.1 t33.2.1 t33.2.2.1 t33.2.2.2 hc33) gL_isDrawn_X3_draw rfl (by decide +kernel) rfl ⟨by decide, by decide⟩ Jn.same rfl rfl rfl (Nat.le_of_ble_eq_true rfl) dL_isDrawn_21 (fun H locs hP hD hS => ?_)
      refine lv_bipush (v := (-2)) hx hb dL_isDrawn_24 (by decide +kernel) ?_
      refine lv_icmp_ne (tgt := 63) hx hb dL_isDrawn_26 (by decide) (fun c34 => ?_) (fun c34 => ?_)
      · replace hc := ite_f c34 hc
        cases hc
      · replace hc := ite_t c34 hc
        refine lv_aload_n hx hb dL_isDrawn_29 rfl (lv_at hl 2 rfl) ?_
        refine lv_iload_n hx hb dL_isDrawn_30 rfl (lv_at hl 3 rfl) ?_
        refine lv_iload_n hx hb dL_isDrawn_31 rfl (lv_at hl 4 rfl) ?_
        refine lv_iload_n hx hb dL_isDrawn_32 rfl (lv_at hl 3 rfl) ?_
        obtain ⟨x35, t35, hc35, hc⟩ := b2_some hc
        refine gc_VI (n := 3) (q0 := 0) (ci := 3) (w' := NW cy aN t35.1 t35.2.1 t35.2.2.1 t35.2.2.2) hx hb hml hown hts hK hP hD hS hA hl.1 ⟨Nat.le_refl _, Nat.le_refl _⟩ (C_X3_gives l D cy aN t33.1 t33.2.1 t33.2.2.1 t33.2.2.2 p1 p2 p1 x35 t35.1 t35.2.1 t35.2.2.1 t35.2.2.2 hc35) gL_isDrawn_X3_gives rfl (by decide +kernel) rfl ⟨by decide, by decide⟩ Jn.same rfl rfl rfl (Nat.le_of_ble_eq_true rfl) dL_isDrawn_33 (fun H locs hP hD hS => ?_)
        refine lv_bipush (v := (-2)) hx hb dL_isDrawn_36 (by decide +kernel) ?_
        refine lv_icmp_ne (tgt := 63) hx hb dL_isDrawn_38 (by decide) (fun c36 => ?_) (fun c36 => ?_)
        · replace hc := ite_f c36 hc
          cases hc
        · replace hc := ite_t c36 hc
          refine lv_aload_n hx hb dL_isDrawn_41 rfl (lv_at hl 2 rfl) ?_
          refine lv_iload_n hx hb dL_isDrawn_42 rfl (lv_at hl 3 rfl) ?_
          refine lv_iload_n hx hb dL_isDrawn_43 rfl (lv_at hl 4 rfl) ?_
          obtain ⟨x37, t37, hc37, hc⟩ := b2_some hc
          refine gc_VI (n := 2) (q0 := 0) (ci := 3) (w' := NW cy aN t37.1 t37.2.1 t37.2.2.1 t37.2.2.2) hx hb hml hown hts hK hP hD hS hA hl.1 ⟨Nat.le_refl _, Nat.le_refl _⟩ (C_X3_possibleIn l D cy aN t35.1 t35.2.1 t35.2.2.1 t35.2.2.2 p1 p2 x37 t37.1 t37.2.1 t37.2.2.1 t37.2.2.2 hc37) gL_isDrawn_X3_possibleIn rfl (by decide +kernel) rfl ⟨by decide, by decide⟩ Jn.same rfl rfl rfl (Nat.le_of_ble_eq_true rfl) dL_isDrawn_44 (fun H locs hP hD hS => ?_)
          refine lv_if_eq (tgt := 63) hx hb dL_isDrawn_47 (by decide) (fun c38 => ?_) (fun c38 => ?_)
          · replace hc := ite_t c38 hc
            cases hc
          · replace hc := ite_f c38 hc
            refine lv_aload_n hx hb dL_isDrawn_50 rfl (lv_at hl 2 rfl) ?_
            obtain ⟨x39, hc39, hc⟩ := b1_some hc
            refine gc_SL (n := 1) (w' := NW cy aN t37.1 t37.2.1 t37.2.2.1 t37.2.2.2) hx hb hml hown hts hK hP hD hS hA hl.1 ⟨Nat.le_refl _, Nat.le_refl _⟩ (C_L_print l D cy aN t37.1 t37.2.1 t37.2.2.1 t37.2.2.2 x39 hc39) gL_isDrawn_L_print rfl (by decide +kernel) rfl ⟨by decide, by decide⟩ Jn.same rfl (Nat.le_of_ble_eq_true rfl) dL_isDrawn_51 (fun H locs hP hD hS => ?_)
            refine lv_lload_n hx hb dL_isDrawn_54 rfl (lv_at hl 1 rfl) ?_
            refine W.lcmp hx hb dL_isDrawn_55 ?_
            by_cases c40 : x39 = x1
            · replace hc := ite_t c40 hc
              rw [show lg_cmp x39 x1 = 0 by rw [c40]; simp [lg_cmp]]
              refine lv_if_ne (tgt := 63) hx hb dL_isDrawn_56 (by decide) (fun c9 => absurd rfl c9) (fun _ => ?_)
              refine lv_iconst (v := 1) hx hb dL_isDrawn_59 (by decide) ?_
              refine lv_goto (tgt := 64) hx hb dL_isDrawn_60 (by decide) ?_
              exact hend H locs _ _ _ _ _ _ _ (some_fst hc) (some_snd hc) rfl hP hD hS dL_isDrawn_64
            · replace hc := ite_f c40 hc
              cases hc
  rw [hHe, hLe] at goal0
  exact goal0
set_option maxHeartbeats 40000000 in
set_option maxRecDepth 100000 in
theorem C_L_isAhead (l : Launch) (D : va_G) (cy : Nat → ClassId) (aN : Nat → Nat → Nat) (v1 : FV) (v2 : FV) (G : (Nat → FV)) (v3 : FV) (p1 : Int32) (p2 : Int32) (p3 : Int32) (r : Int32) (v1' : FV) (v2' : FV) (G' : (Nat → FV)) (v3' : FV) (hc : f_L_isAhead v1 v2 G v3 p1 p2 p3 = some (r, (v1', v2', G', v3'))) : ConI l yL_isAhead wsL_isAhead 6 186 D cy (fun (u : FV × FV × (Nat → FV) × FV) => NW cy aN u.1 u.2.1 u.2.2.1 u.2.2.2) [.ref (aN 0 0), .int p1, .int p2, .int p3] ((v1, v2, G, v3)) ((v1', v2', G', v3')) r := by
  refine bodyI (cc := cL_isAhead) (maxL := 10) (ty := .boolean) (by decide +kernel) rfl (Nat.le_of_ble_eq_true rfl) ?_
  intro p e s m args below meth c A Q hx hb hml hts hown hK hP hD hA hS hend ls hl
  have hown : s.vm.findClass RL = some m.cls := hown
  have hP : va_P D vwCl (NW cy aN v1 v2 G v3) s.heap := hP
  have hD : va_D A (NW cy aN v1 v2 G v3) := hD
  have hl : lv_has ls 10 [(0, .ref (aN 0 0)), (1, .int p1), (2, .int p2), (3, .int p3)] := hl
  have hend : ∀ (H : Heap) (locs : List Loc) (pc : Nat) (ls : Array Slot) (v : Int32) (v1 : FV) (v2 : FV) (G : (Nat → FV)) (v3 : FV), v = r → (v1, v2, G, v3) = (v1', v2', G', v3') → narrow .boolean (.int v) = .int v → va_P D vwCl (NW cy aN v1 v2 G v3) H → va_D A (NW cy aN v1 v2 G v3) → va_S A s.heap H locs → decode cL_isAhead pc = .ok (.ireturn, 1) → W p l e (RM 6 186) s m args below meth c H locs 0 0 Q (F0 m pc ls [.int v]) := fun H locs pc ls v v1 v2 G v3 h1 h2 h3 h4 h5 h6 h7 => hend H locs pc ls v ((v1, v2, G, v3)) h1 h2 h3 h4 h5 h6 h7
  have J211 : ∀ (y4 : Int64) (v1 : FV) (v2 : FV) (G : (Nat → FV)) (v3 : FV) (H : Heap) (locs : List Loc) (ls : Array Slot), f_L_isAhead_J211 y4 v1 v2 G v3 = some (r, (v1', v2', G', v3')) → va_P D vwCl (NW cy aN v1 v2 G v3) H → va_D A (NW cy aN v1 v2 G v3) → va_S A s.heap H locs → lv_has ls 10 [(0, .ref (aN 0 0)), (4, .long y4), (9, .int 1)] → W p l e (RM 6 186) s m args below meth c H locs 0 0 Q (F0 m 211 ls []) := by
    intro y4 v1 v2 G v3 H locs ls hc hP hD hS hl
    refine lv_iload hx hb dL_isAhead_211 (lv_at hl 2 rfl) ?_
    refine lv_if_eq (tgt := 230) hx hb dL_isAhead_213 (by decide) (fun c9 => absurd c9 (by decide)) (fun _ => ?_)
    refine lv_aload_n hx hb dL_isAhead_216 rfl (lv_at hl 0 rfl) ?_
    obtain ⟨x20, hc20, hc⟩ := b1_some hc
    refine gc_SL (n := 1) (w' := NW cy aN v1 v2 G v3) hx hb hml hown hts hK hP hD hS hA hl.1 ⟨Nat.le_refl _, Nat.le_refl _⟩ (C_L_print l D cy aN v1 v2 G v3 x20 hc20) gL_isAhead_L_print rfl (by decide +kernel) rfl ⟨by decide, by decide⟩ Jn.same rfl (Nat.le_of_ble_eq_true rfl) dL_isAhead_217 (fun H locs hP hD hS => ?_)
    refine lv_lload hx hb dL_isAhead_220 (lv_at hl 1 rfl) ?_
    refine W.lcmp hx hb dL_isAhead_222 ?_
    by_cases c21 : x20 = y4
    · replace hc := ite_t c21 hc
      rw [show lg_cmp x20 y4 = 0 by rw [c21]; simp [lg_cmp]]
      refine lv_if_ne (tgt := 230) hx hb dL_isAhead_223 (by decide) (fun c9 => absurd rfl c9) (fun _ => ?_)
      refine lv_iconst (v := 1) hx hb dL_isAhead_226 (by decide) ?_
      refine lv_goto (tgt := 231) hx hb dL_isAhead_227 (by decide) ?_
      exact hend H locs _ _ _ _ _ _ _ (some_fst hc) (some_snd hc) rfl hP hD hS dL_isAhead_231
    · replace hc := ite_f c21 hc
      cases hc
  have J110 : ∀ (y1 : Int32) (y3 : Int32) (y4 : Int64) (y7 : Int32) (v1 : FV) (v2 : FV) (G : (Nat → FV)) (v3 : FV) (H : Heap) (locs : List Loc) (ls : Array Slot), f_L_isAhead_J110 y1 y3 y4 y7 v1 v2 G v3 = some (r, (v1', v2', G', v3')) → va_P D vwCl (NW cy aN v1 v2 G v3) H → va_D A (NW cy aN v1 v2 G v3) → va_S A s.heap H locs → lv_has ls 10 [(0, .ref (aN 0 0)), (1, .int y1), (3, .int y3), (4, .long y4), (7, .int y7)] → W p l e (RM 6 186) s m args below meth c H locs 0 0 Q (F0 m 110 ls []) := by
    intro y1 y3 y4 y7 v1 v2 G v3 H locs ls hc hP hD hS hl
    refine lv_aload_n hx hb dL_isAhead_110 rfl (lv_at hl 0 rfl) ?_
    obtain ⟨x15, t15, hc15, hc⟩ := b2_some hc
    refine gc_VI (n := 0) (q0 := 0) (ci := 3) (w' := NW cy aN t15.1 t15.2.1 t15.2.2.1 t15.2.2.2) hx hb hml hown hts hK hP hD hS hA hl.1 ⟨Nat.le_refl _, Nat.le_refl _⟩ (C_X3_undo l D cy aN v1 v2 G v3 x15 t15.1 t15.2.1 t15.2.2.1 t15.2.2.2 hc15) gL_isAhead_X3_undo rfl (by decide +kernel) rfl ⟨by decide, by decide⟩ Jn.same rfl rfl rfl (Nat.le_of_ble_eq_true rfl) dL_isAhead_111 (fun H locs hP hD hS => ?_)
    refine lv_if_lt (tgt := 131) hx hb dL_isAhead_114 (by decide) (fun c16 => ?_) (fun c16 => ?_)
    · replace hc := ite_t c16 hc
      cases hc
    · replace hc := ite_f c16 hc
      refine lv_aload_n hx hb dL_isAhead_117 rfl (lv_at hl 0 rfl) ?_
      obtain ⟨x17, hc17, hc⟩ := b1_some hc
      refine gc_SL (n := 1) (w' := NW cy aN t15.1 t15.2.1 t15.2.2.1 t15.2.2.2) hx hb hml hown hts hK hP hD hS hA hl.1 ⟨Nat.le_refl _, Nat.le_refl _⟩ (C_L_print l D cy aN t15.1 t15.2.1 t15.2.2.1 t15.2.2.2 x17 hc17) gL_isAhead_L_print rfl (by decide +kernel) rfl ⟨by decide, by decide⟩ Jn.same rfl (Nat.le_of_ble_eq_true rfl) dL_isAhead_118 (fun H locs hP hD hS => ?_)
      refine lv_lload hx hb dL_isAhead_121 (lv_at hl 3 rfl) ?_
      refine W.lcmp hx hb dL_isAhead_123 ?_
      by_cases c18 : x17 = y4
      · replace hc := ite_t c18 hc
        rw [show lg_cmp x17 y4 = 0 by rw [c18]; simp [lg_cmp]]
        refine lv_if_ne (tgt := 131) hx hb dL_isAhead_124 (by decide) (fun c9 => absurd rfl c9) (fun _ => ?_)
        refine lv_iconst (v := 1) hx hb dL_isAhead_127 (by decide) ?_
        refine lv_goto (tgt := 132) hx hb dL_isAhead_128 (by decide) ?_
        refine lv_istore (lv' := [(9, .int 1), (0, .ref (aN 0 0)), (1, .int y1), (3, .int y3), (4, .long y4), (7, .int y7)]) hx hb dL_isAhead_132 hl (by decide) rfl (fun ls hl => ?_)
        refine lv_iload hx hb dL_isAhead_134 (lv_at hl 0 rfl) ?_
        refine lv_if_eq (tgt := 211) hx hb dL_isAhead_136 (by decide) (fun c9 => absurd c9 (by decide)) (fun _ => ?_)
        refine lv_iload hx hb dL_isAhead_139 (lv_at hl 5 rfl) ?_
        refine lv_iconst (v := 1) hx hb dL_isAhead_141 (by decide) ?_
        refine lv_icmp_le (tgt := 211) hx hb dL_isAhead_142 (by decide) (fun c19 => ?_) (fun c19 => ?_)
        · replace hc := ite_t c19 hc
          exact J211 y4 t15.1 t15.2.1 t15.2.2.1 t15.2.2.2 H locs ls hc hP hD hS (lv_sub hl [1, 4, 0] rfl)
        · replace hc := ite_f c19 hc
          refine lv_iload hx hb dL_isAhead_145 (lv_at hl 5 rfl) ?_
          refine lv_sipush (v := 200) hx hb dL_isAhead_147 (by decide +kernel) ?_
          refine lv_icmp_gt (tgt := 211) hx hb dL_isAhead_150 (by decide) (fun c22 => ?_) (fun c22 => ?_)
          · replace hc := ite_t c22 hc
            exact J211 y4 t15.1 t15.2.1 t15.2.2.1 t15.2.2.2 H locs ls hc hP hD hS (lv_sub hl [1, 4, 0] rfl)
          · replace hc := ite_f c22 hc
            refine lv_aload_n hx hb dL_isAhead_153 rfl (lv_at hl 1 rfl) ?_
            refine lv_iload hx hb dL_isAhead_154 (lv_at hl 5 rfl) ?_
            refine lv_iconst (v := 1) hx hb dL_isAhead_156 (by decide) ?_
            refine lv_isub hx hb dL_isAhead_157 ?_
            obtain ⟨x23, t23, hc23, hc⟩ := b2_some hc
            refine gc_VI (n := 1) (q0 := 0) (ci := 3) (w' := NW cy aN t23.1 t23.2.1 t23.2.2.1 t23.2.2.2) hx hb hml hown hts hK hP hD hS hA hl.1 ⟨Nat.le_refl _, Nat.le_refl _⟩ (C_X3_tick l D cy aN t15.1 t15.2.1 t15.2.2.1 t15.2.2.2 (y7 - 1) x23 t23.1 t23.2.1 t23.2.2.1 t23.2.2.2 hc23) gL_isAhead_X3_tick rfl (by decide +kernel) rfl ⟨by decide, by decide⟩ Jn.same rfl rfl rfl (Nat.le_of_ble_eq_true rfl) dL_isAhead_158 (fun H locs hP hD hS => ?_)
            refine lv_if_lt (tgt := 208) hx hb dL_isAhead_161 (by decide) (fun c24 => ?_) (fun c24 => ?_)
            · replace hc := ite_t c24 hc
              cases hc
            · replace hc := ite_f c24 hc
              refine lv_aload_n hx hb dL_isAhead_164 rfl (lv_at hl 1 rfl) ?_
              refine lv_iload_n hx hb dL_isAhead_165 rfl (lv_at hl 2 rfl) ?_
              obtain ⟨x25, t25, hc25, hc⟩ := b2_some hc
              refine gc_VI (n := 1) (q0 := 0) (ci := 3) (w' := NW cy aN t25.1 t25.2.1 t25.2.2.1 t25.2.2.2) hx hb hml hown hts hK hP hD hS hA hl.1 ⟨Nat.le_refl _, Nat.le_refl _⟩ (C_X3_able l D cy aN t23.1 t23.2.1 t23.2.2.1 t23.2.2.2 y1 x25 t25.1 t25.2.1 t25.2.2.1 t25.2.2.2 hc25) gL_isAhead_X3_able rfl (by decide +kernel) rfl ⟨by decide, by decide⟩ Jn.same rfl rfl rfl (Nat.le_of_ble_eq_true rfl) dL_isAhead_166 (fun H locs hP hD hS => ?_)
              refine lv_iload_n hx hb dL_isAhead_169 rfl (lv_at hl 3 rfl) ?_
              refine lv_icmp_ge (tgt := 208) hx hb dL_isAhead_170 (by decide) (fun c26 => ?_) (fun c26 => ?_)
              · replace hc := ite_t c26 hc
                cases hc
              · replace hc := ite_f c26 hc
                refine lv_aload_n hx hb dL_isAhead_173 rfl (lv_at hl 1 rfl) ?_
                refine lv_iconst (v := 1) hx hb dL_isAhead_174 (by decide) ?_
                obtain ⟨x27, t27, hc27, hc⟩ := b2_some hc
                refine gc_VI (n := 1) (q0 := 0) (ci := 3) (w' := NW cy aN t27.1 t27.2.1 t27.2.2.1 t27.2.2.2) hx hb hml hown hts hK hP hD hS hA hl.1 ⟨Nat.le_refl _, Nat.le_refl _⟩ (C_X3_tick l D cy aN t25.1 t25.2.1 t25.2.2.1 t25.2.2.2 1 x27 t27.1 t27.2.1 t27.2.2.1 t27.2.2.2 hc27) gL_isAhead_X3_tick rfl (by decide +kernel) rfl ⟨by decide, by decide⟩ Jn.same rfl rfl rfl (Nat.le_of_ble_eq_true rfl) dL_isAhead_175 (fun H locs hP hD hS => ?_)
                refine lv_if_lt (tgt := 208) hx hb dL_isAhead_178 (by decide) (fun c28 => ?_) (fun c28 => ?_)
                · replace hc := ite_t c28 hc
                  cases hc
                · replace hc := ite_f c28 hc
                  refine lv_aload_n hx hb dL_isAhead_181 rfl (lv_at hl 1 rfl) ?_
                  refine lv_iload_n hx hb dL_isAhead_182 rfl (lv_at hl 2 rfl) ?_
                  obtain ⟨x29, t29, hc29, hc⟩ := b2_some hc
                  refine gc_VI (n := 1) (q0 := 0) (ci := 3) (w' := NW cy aN t29.1 t29.2.1 t29.2.2.1 t29.2.2.2) hx hb hml hown hts hK hP hD hS hA hl.1 ⟨Nat.le_refl _, Nat.le_refl _⟩ (C_X3_able l D cy aN t27.1 t27.2.1 t27.2.2.1 t27.2.2.2 y1 x29 t29.1 t29.2.1 t29.2.2.1 t29.2.2.2 hc29) gL_isAhead_X3_able rfl (by decide +kernel) rfl ⟨by decide, by decide⟩ Jn.same rfl rfl rfl (Nat.le_of_ble_eq_true rfl) dL_isAhead_183 (fun H locs hP hD hS => ?_)
                  refine lv_iload_n hx hb dL_isAhead_186 rfl (lv_at hl 3 rfl) ?_
                  refine lv_icmp_lt (tgt := 208) hx hb dL_isAhead_187 (by decide) (fun c30 => ?_) (fun c30 => ?_)
                  · replace hc := ite_t c30 hc
                    cases hc
                  · replace hc := ite_f c30 hc
                    refine lv_aload_n hx hb dL_isAhead_190 rfl (lv_at hl 1 rfl) ?_
                    obtain ⟨x31, t31, hc31, hc⟩ := b2_some hc
                    refine gc_VI (n := 0) (q0 := 0) (ci := 3) (w' := NW cy aN t31.1 t31.2.1 t31.2.2.1 t31.2.2.2) hx hb hml hown hts hK hP hD hS hA hl.1 ⟨Nat.le_refl _, Nat.le_refl _⟩ (C_X3_undo l D cy aN t29.1 t29.2.1 t29.2.2.1 t29.2.2.2 x31 t31.1 t31.2.1 t31.2.2.1 t31.2.2.2 hc31) gL_isAhead_X3_undo rfl (by decide +kernel) rfl ⟨by decide, by decide⟩ Jn.same rfl rfl rfl (Nat.le_of_ble_eq_true rfl) dL_isAhead_191 (fun H locs hP hD hS => ?_)
                    refine lv_if_lt (tgt := 208) hx hb dL_isAhead_194 (by decide) (fun c32 => ?_) (fun c32 => ?_)
                    · replace hc := ite_t c32 hc
                      cases hc
                    · replace hc := ite_f c32 hc
                      refine lv_aload_n hx hb dL_isAhead_197 rfl (lv_at hl 1 rfl) ?_
                      obtain ⟨x33, t33, hc33, hc⟩ := b2_some hc
                      refine gc_VI (n := 0) (q0 := 0) (ci := 3) (w' := NW cy aN t33.1 t33.2.1 t33.2.2.1 t33.2.2.2) hx hb hml hown hts hK hP hD hS hA hl.1 ⟨Nat.le_refl _, Nat.le_refl _⟩ (C_X3_undo l D cy aN t31.1 t31.2.1 t31.2.2.1 t31.2.2.2 x33 t33.1 t33.2.1 t33.2.2.1 t33.2.2.2 hc33) gL_isAhead_X3_undo rfl (by decide +kernel) rfl ⟨by decide, by decide⟩ Jn.same rfl rfl rfl (Nat.le_of_ble_eq_true rfl) dL_isAhead_198 (fun H locs hP hD hS => ?_)
                      refine lv_if_lt (tgt := 208) hx hb dL_isAhead_201 (by decide) (fun c34 => ?_) (fun c34 => ?_)
                      · replace hc := ite_t c34 hc
                        cases hc
                      · replace hc := ite_f c34 hc
                        refine lv_iconst (v := 1) hx hb dL_isAhead_204 (by decide) ?_
                        refine lv_goto (tgt := 209) hx hb dL_isAhead_205 (by decide) ?_
                        refine lv_istore (lv' := [(9, .int 1), (0, .ref (aN 0 0)), (1, .int y1), (3, .int y3), (4, .long y4), (7, .int y7)]) hx hb dL_isAhead_209 hl (by decide) rfl (fun ls hl => ?_)
                        exact J211 y4 t33.1 t33.2.1 t33.2.2.1 t33.2.2.2 H locs ls hc hP hD hS (lv_sub hl [1, 4, 0] rfl)
      · replace hc := ite_f c18 hc
        cases hc
  have J88 : ∀ (y1 : Int32) (y2 : Int32) (y3 : Int32) (y4 : Int64) (y7 : Int32) (v1 : FV) (v2 : FV) (G : (Nat → FV)) (v3 : FV) (H : Heap) (locs : List Loc) (ls : Array Slot), f_L_isAhead_J88 y1 y2 y3 y4 y7 v1 v2 G v3 = some (r, (v1', v2', G', v3')) → va_P D vwCl (NW cy aN v1 v2 G v3) H → va_D A (NW cy aN v1 v2 G v3) → va_S A s.heap H locs → lv_has ls 10 [(0, .ref (aN 0 0)), (1, .int y1), (2, .int y2), (3, .int y3), (4, .long y4), (7, .int y7)] → W p l e (RM 6 186) s m args below meth c H locs 0 0 Q (F0 m 88 ls []) := by
    intro y1 y2 y3 y4 y7 v1 v2 G v3 H locs ls hc hP hD hS hl
    refine lv_iload hx hb dL_isAhead_88 (lv_at hl 5 rfl) ?_
    refine lv_bipush (v := (-4)) hx hb dL_isAhead_90 (by decide +kernel) ?_
    refine lv_icmp_eq (tgt := 110) hx hb dL_isAhead_92 (by decide) (fun c14 => ?_) (fun c14 => ?_)
    · replace hc := ite_t c14 hc
      exact J110 y1 y3 y4 y7 v1 v2 G v3 H locs ls hc hP hD hS (lv_sub hl [0, 1, 3, 4, 5] rfl)
    · replace hc := ite_f c14 hc
      refine lv_iload hx hb dL_isAhead_95 (lv_at hl 5 rfl) ?_
      refine lv_iload_n hx hb dL_isAhead_97 rfl (lv_at hl 2 rfl) ?_
      refine lv_icmp_le (tgt := 110) hx hb dL_isAhead_98 (by decide) (fun c35 => ?_) (fun c35 => ?_)
      · replace hc := ite_t c35 hc
        exact J110 y1 y3 y4 y7 v1 v2 G v3 H locs ls hc hP hD hS (lv_sub hl [0, 1, 3, 4, 5] rfl)
      · replace hc := ite_f c35 hc
        refine lv_aload_n hx hb dL_isAhead_101 rfl (lv_at hl 0 rfl) ?_
        refine lv_iload_n hx hb dL_isAhead_102 rfl (lv_at hl 1 rfl) ?_
        obtain ⟨x36, t36, hc36, hc⟩ := b2_some hc
        refine gc_VI (n := 1) (q0 := 0) (ci := 3) (w' := NW cy aN t36.1 t36.2.1 t36.2.2.1 t36.2.2.2) hx hb hml hown hts hK hP hD hS hA hl.1 ⟨Nat.le_refl _, Nat.le_refl _⟩ (C_X3_able l D cy aN v1 v2 G v3 y1 x36 t36.1 t36.2.1 t36.2.2.1 t36.2.2.2 hc36) gL_isAhead_X3_able rfl (by decide +kernel) rfl ⟨by decide, by decide⟩ Jn.same rfl rfl rfl (Nat.le_of_ble_eq_true rfl) dL_isAhead_103 (fun H locs hP hD hS => ?_)
        refine lv_iload_n hx hb dL_isAhead_106 rfl (lv_at hl 3 rfl) ?_
        refine lv_icmp_ge (tgt := 131) hx hb dL_isAhead_107 (by decide) (fun c37 => ?_) (fun c37 => ?_)
        · replace hc := ite_t c37 hc
          cases hc
        · replace hc := ite_f c37 hc
          exact J110 y1 y3 y4 y7 t36.1 t36.2.1 t36.2.2.1 t36.2.2.2 H locs ls hc hP hD hS (lv_sub hl [0, 1, 3, 4, 5] rfl)
  obtain ⟨H, hHe⟩ : ∃ H : Heap, H = s.heap := ⟨_, rfl⟩
  obtain ⟨locs, hLe⟩ : ∃ x : List Loc, x = [] := ⟨_, rfl⟩
  have hP : va_P D vwCl (NW cy aN v1 v2 G v3) H := by rw [hHe]; exact hP
  have hS : va_S A s.heap H locs := by rw [hHe, hLe]; exact hS
  have goal0 : W p l e (RM 6 186) s m args below meth c H locs 0 0 Q (F0 m 0 ls []) := by
    refine lv_aload_n hx hb dL_isAhead_0 rfl (lv_at hl 0 rfl) ?_
    obtain ⟨x1, hc1, hc⟩ := b1_some hc
    refine gc_SL (n := 1) (w' := NW cy aN v1 v2 G v3) hx hb hml hown hts hK hP hD hS hA hl.1 ⟨Nat.le_refl _, Nat.le_refl _⟩ (C_L_print l D cy aN v1 v2 G v3 x1 hc1) gL_isAhead_L_print rfl (by decide +kernel) rfl ⟨by decide, by decide⟩ Jn.same rfl (Nat.le_of_ble_eq_true rfl) dL_isAhead_1 (fun H locs hP hD hS => ?_)
    refine lv_lstore (lv' := [(4, .long x1), (0, .ref (aN 0 0)), (1, .int p1), (2, .int p2), (3, .int p3)]) hx hb dL_isAhead_4 hl (by decide) rfl (fun ls hl => ?_)
    refine lv_aload_n hx hb dL_isAhead_6 rfl (lv_at hl 1 rfl) ?_
    refine lv_iload_n hx hb dL_isAhead_7 rfl (lv_at hl 2 rfl) ?_
    refine lv_iload_n hx hb dL_isAhead_8 rfl (lv_at hl 3 rfl) ?_
    obtain ⟨x2, t2, hc2, hc⟩ := b2_some hc
    refine gc_VI (n := 2) (q0 := 0) (ci := 3) (w' := NW cy aN t2.1 t2.2.1 t2.2.2.1 t2.2.2.2) hx hb hml hown hts hK hP hD hS hA hl.1 ⟨Nat.le_refl _, Nat.le_refl _⟩ (C_X3_waterIn l D cy aN v1 v2 G v3 p1 p2 x2 t2.1 t2.2.1 t2.2.2.1 t2.2.2.2 hc2) gL_isAhead_X3_waterIn rfl (by decide +kernel) rfl ⟨by decide, by decide⟩ Jn.same rfl rfl rfl (Nat.le_of_ble_eq_true rfl) dL_isAhead_9 (fun H locs hP hD hS => ?_)
    refine lv_istore (lv' := [(6, .int x2), (4, .long x1), (0, .ref (aN 0 0)), (1, .int p1), (2, .int p2), (3, .int p3)]) hx hb dL_isAhead_12 hl (by decide) rfl (fun ls hl => ?_)
    refine lv_aload_n hx hb dL_isAhead_14 rfl (lv_at hl 2 rfl) ?_
    refine lv_iload_n hx hb dL_isAhead_15 rfl (lv_at hl 3 rfl) ?_
    refine lv_iload_n hx hb dL_isAhead_16 rfl (lv_at hl 5 rfl) ?_
    obtain ⟨x3, t3, hc3, hc⟩ := b2_some hc
    refine gc_VI (n := 2) (q0 := 0) (ci := 3) (w' := NW cy aN t3.1 t3.2.1 t3.2.2.1 t3.2.2.2) hx hb hml hown hts hK hP hD hS hA hl.1 ⟨Nat.le_refl _, Nat.le_refl _⟩ (C_X3_possibleIn l D cy aN t2.1 t2.2.1 t2.2.2.1 t2.2.2.2 p1 p3 x3 t3.1 t3.2.1 t3.2.2.1 t3.2.2.2 hc3) gL_isAhead_X3_possibleIn rfl (by decide +kernel) rfl ⟨by decide, by decide⟩ Jn.same rfl rfl rfl (Nat.le_of_ble_eq_true rfl) dL_isAhead_17 (fun H locs hP hD hS => ?_)
    refine lv_istore (lv' := [(7, .int x3), (6, .int x2), (4, .long x1), (0, .ref (aN 0 0)), (1, .int p1), (2, .int p2), (3, .int p3)]) hx hb dL_isAhead_20 hl (by decide) rfl (fun ls hl => ?_)
    refine lv_aload_n hx hb dL_isAhead_22 rfl (lv_at hl 3 rfl) ?_
    refine lv_bipush (v := 11) hx hb dL_isAhead_23 (by decide +kernel) ?_
    obtain ⟨x4, hc4, hc⟩ := b1_some hc
    refine gc_VI (n := 1) (q0 := 0) (ci := 3) (w' := NW cy aN t3.1 t3.2.1 t3.2.2.1 t3.2.2.2) hx hb hml hown hts hK hP hD hS hA hl.1 ⟨Nat.le_refl _, Nat.le_refl _⟩ (C_X3_count l D cy aN t3.1 t3.2.1 t3.2.2.1 t3.2.2.2 11 x4 hc4) gL_isAhead_X3_count rfl (by decide +kernel) rfl ⟨by decide, by decide⟩ Jn.same rfl rfl rfl (Nat.le_of_ble_eq_true rfl) dL_isAhead_25 (fun H locs hP hD hS => ?_)
    refine lv_istore (lv' := [(8, .int x4), (7, .int x3), (6, .int x2), (4, .long x1), (0, .ref (aN 0 0)), (1, .int p1), (2, .int p2), (3, .int p3)]) hx hb dL_isAhead_28 hl (by decide) rfl (fun ls hl => ?_)
    refine lv_aload_n hx hb dL_isAhead_30 rfl (lv_at hl 4 rfl) ?_
    refine lv_iload_n hx hb dL_isAhead_31 rfl (lv_at hl 5 rfl) ?_
    refine lv_iconst (v := 0) hx hb dL_isAhead_32 (by decide) ?_
    obtain ⟨x5, t5, hc5, hc⟩ := b2_some hc
    refine gc_VI (n := 2) (q0 := 0) (ci := 3) (w' := NW cy aN t5.1 t5.2.1 t5.2.2.1 t5.2.2.2) hx hb hml hown hts hK hP hD hS hA hl.1 ⟨Nat.le_refl _, Nat.le_refl _⟩ (C_X3_waterIn l D cy aN t3.1 t3.2.1 t3.2.2.1 t3.2.2.2 p1 0 x5 t5.1 t5.2.1 t5.2.2.1 t5.2.2.2 hc5) gL_isAhead_X3_waterIn rfl (by decide +kernel) rfl ⟨by decide, by decide⟩ Jn.same rfl rfl rfl (Nat.le_of_ble_eq_true rfl) dL_isAhead_33 (fun H locs hP hD hS => ?_)
    refine lv_aload_n hx hb dL_isAhead_36 rfl (lv_at hl 4 rfl) ?_
    refine lv_iload_n hx hb dL_isAhead_37 rfl (lv_at hl 5 rfl) ?_
    refine lv_iconst (v := 4) hx hb dL_isAhead_38 (by decide) ?_
    obtain ⟨x6, hc6, hc⟩ := b1_some hc
    refine gc_VI (n := 2) (q0 := 0) (ci := 3) (w' := NW cy aN t5.1 t5.2.1 t5.2.2.1 t5.2.2.2) hx hb hml hown hts hK hP hD hS hA hl.1 ⟨Nat.le_refl _, Nat.le_refl _⟩ (C_X3_wellOf l D cy aN t5.1 t5.2.1 t5.2.2.1 t5.2.2.2 p1 4 x6 hc6) gL_isAhead_X3_wellOf rfl (by decide +kernel) rfl ⟨by decide, by decide⟩ Jn.same rfl rfl rfl (Nat.le_of_ble_eq_true rfl) dL_isAhead_39 (fun H locs hP hD hS => ?_)
    refine lv_icmp_ne (tgt := 131) hx hb dL_isAhead_42 (by decide) (fun c7 => ?_) (fun c7 => ?_)
    · replace hc := ite_f c7 hc
      cases hc
    · replace hc := ite_t c7 hc
      refine lv_aload_n hx hb dL_isAhead_45 rfl (lv_at hl 4 rfl) ?_
      refine lv_iload_n hx hb dL_isAhead_46 rfl (lv_at hl 6 rfl) ?_
      obtain ⟨x8, t8, hc8, hc⟩ := b2_some hc
      refine gc_VI (n := 1) (q0 := 0) (ci := 3) (w' := NW cy aN t8.1 t8.2.1 t8.2.2.1 t8.2.2.2) hx hb hml hown hts hK hP hD hS hA hl.1 ⟨Nat.le_refl _, Nat.le_refl _⟩ (C_X3_tick l D cy aN t5.1 t5.2.1 t5.2.2.1 t5.2.2.2 p2 x8 t8.1 t8.2.1 t8.2.2.1 t8.2.2.2 hc8) gL_isAhead_X3_tick rfl (by decide +kernel) rfl ⟨by decide, by decide⟩ Jn.same rfl rfl rfl (Nat.le_of_ble_eq_true rfl) dL_isAhead_47 (fun H locs hP hD hS => ?_)
      refine lv_aload_n hx hb dL_isAhead_50 rfl (lv_at hl 4 rfl) ?_
      refine lv_bipush (v := 11) hx hb dL_isAhead_51 (by decide +kernel) ?_
      obtain ⟨x9, hc9, hc⟩ := b1_some hc
      refine gc_VI (n := 1) (q0 := 0) (ci := 3) (w' := NW cy aN t8.1 t8.2.1 t8.2.2.1 t8.2.2.2) hx hb hml hown hts hK hP hD hS hA hl.1 ⟨Nat.le_refl _, Nat.le_refl _⟩ (C_X3_count l D cy aN t8.1 t8.2.1 t8.2.2.1 t8.2.2.2 11 x9 hc9) gL_isAhead_X3_count rfl (by decide +kernel) rfl ⟨by decide, by decide⟩ Jn.same rfl rfl rfl (Nat.le_of_ble_eq_true rfl) dL_isAhead_53 (fun H locs hP hD hS => ?_)
      refine lv_iload hx hb dL_isAhead_56 (lv_at hl 0 rfl) ?_
      refine lv_isub hx hb dL_isAhead_58 ?_
      refine lv_icmp_ne (tgt := 131) hx hb dL_isAhead_59 (by decide) (fun c10 => ?_) (fun c10 => ?_)
      · replace hc := ite_f c10 hc
        cases hc
      · replace hc := ite_t c10 hc
        refine lv_aload_n hx hb dL_isAhead_62 rfl (lv_at hl 4 rfl) ?_
        refine lv_iload_n hx hb dL_isAhead_63 rfl (lv_at hl 5 rfl) ?_
        refine lv_iconst (v := 4) hx hb dL_isAhead_64 (by decide) ?_
        obtain ⟨x11, hc11, hc⟩ := b1_some hc
        refine gc_VI (n := 2) (q0 := 0) (ci := 3) (w' := NW cy aN t8.1 t8.2.1 t8.2.2.1 t8.2.2.2) hx hb hml hown hts hK hP hD hS hA hl.1 ⟨Nat.le_refl _, Nat.le_refl _⟩ (C_X3_wellOf l D cy aN t8.1 t8.2.1 t8.2.2.1 t8.2.2.2 p1 4 x11 hc11) gL_isAhead_X3_wellOf rfl (by decide +kernel) rfl ⟨by decide, by decide⟩ Jn.same rfl rfl rfl (Nat.le_of_ble_eq_true rfl) dL_isAhead_65 (fun H locs hP hD hS => ?_)
        refine lv_iload hx hb dL_isAhead_68 (lv_at hl 2 rfl) ?_
        refine lv_icmp_ne (tgt := 131) hx hb dL_isAhead_70 (by decide) (fun c12 => ?_) (fun c12 => ?_)
        · replace hc := ite_f c12 hc
          cases hc
        · replace hc := ite_t c12 hc
          refine lv_iload hx hb dL_isAhead_73 (lv_at hl 1 rfl) ?_
          refine lv_iload_n hx hb dL_isAhead_75 rfl (lv_at hl 6 rfl) ?_
          refine lv_icmp_ne (tgt := 88) hx hb dL_isAhead_76 (by decide) (fun c13 => ?_) (fun c13 => ?_)
          · replace hc := ite_f c13 hc
            exact J88 p1 p2 p3 x1 x3 t8.1 t8.2.1 t8.2.2.1 t8.2.2.2 H locs ls hc hP hD hS (lv_sub hl [4, 5, 6, 7, 3, 1] rfl)
          · replace hc := ite_t c13 hc
            refine lv_aload_n hx hb dL_isAhead_79 rfl (lv_at hl 4 rfl) ?_
            refine lv_iload_n hx hb dL_isAhead_80 rfl (lv_at hl 5 rfl) ?_
            obtain ⟨x38, t38, hc38, hc⟩ := b2_some hc
            refine gc_VI (n := 1) (q0 := 0) (ci := 3) (w' := NW cy aN t38.1 t38.2.1 t38.2.2.1 t38.2.2.2) hx hb hml hown hts hK hP hD hS hA hl.1 ⟨Nat.le_refl _, Nat.le_refl _⟩ (C_X3_able l D cy aN t8.1 t8.2.1 t8.2.2.1 t8.2.2.2 p1 x38 t38.1 t38.2.1 t38.2.2.1 t38.2.2.2 hc38) gL_isAhead_X3_able rfl (by decide +kernel) rfl ⟨by decide, by decide⟩ Jn.same rfl rfl rfl (Nat.le_of_ble_eq_true rfl) dL_isAhead_81 (fun H locs hP hD hS => ?_)
            refine lv_iload_n hx hb dL_isAhead_84 rfl (lv_at hl 7 rfl) ?_
            refine lv_icmp_lt (tgt := 131) hx hb dL_isAhead_85 (by decide) (fun c39 => ?_) (fun c39 => ?_)
            · replace hc := ite_t c39 hc
              cases hc
            · replace hc := ite_f c39 hc
              exact J88 p1 p2 p3 x1 x3 t38.1 t38.2.1 t38.2.2.1 t38.2.2.2 H locs ls hc hP hD hS (lv_sub hl [4, 5, 6, 7, 3, 1] rfl)
  rw [hHe, hLe] at goal0
  exact goal0
