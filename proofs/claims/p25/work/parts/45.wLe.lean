set_option maxHeartbeats 40000000 in
set_option maxRecDepth 100000 in
theorem law_rest {p : Program} {l : Launch} {e : Env} {s : State} {m : MethodId} {below : List Frame} {meth : Method} {c : Code} {D : va_G} {cy : Nat → ClassId} {b L : Nat} {xs : Nat → Int32} (hL : L ≤ 260) (C0 : lw_At p s m meth c b L xs) (hK : KX D cy s) (aN : Nat → Nat → Nat) (v1 : FV) (v2 : FV) (G : (Nat → FV)) (v3 : FV) (r : Int32) (v1' : FV) (v2' : FV) (G' : (Nat → FV)) (v3' : FV) (hc : f_L_law L xs v1 v2 G v3 = some (r, (v1', v2', G', v3'))) : ∀ (H : Heap) (locs : List Loc) (ls : Array Slot), va_P D vwCl (NW cy aN v1 v2 G v3) H → va_D (fun q : Nat => s.heap.size ≤ q) (NW cy aN v1 v2 G v3) → va_S (fun q : Nat => s.heap.size ≤ q) s.heap H locs → lv_has ls 18 [(1, .ref (aN 0 0)), (0, .ref b)] → W p l e room_1 s m #[Value.ref b] below meth c H locs 600000 7302250 (lw_Z below #[Value.ref b] s) (F0 m 8 ls []) := by
  obtain ⟨hx, hb, hr, hml, hown, hts0, hX, hbl, hlocks, hgv⟩ := C0
  have hown : s.vm.findClass RL = some m.cls := hown
  have hts : ∀ w ∈ wsL_law, w.before #[Value.ref b] s = true := fun w h => hts0 w (wsL_law_in w h)
  have hA : ∀ q : Nat, s.heap.size ≤ q → (fun q : Nat => s.heap.size ≤ q) q := fun _ h => h
  have hbA : ¬ (fun q : Nat => s.heap.size ≤ q) b := Nat.not_le.mpr hbl
  have J1259 : ∀ (v1 : FV) (v2 : FV) (G : (Nat → FV)) (v3 : FV) (H : Heap) (locs : List Loc) (ls : Array Slot), f_L_law_J1259 L xs v1 v2 G v3 = some (r, (v1', v2', G', v3')) → va_P D vwCl (NW cy aN v1 v2 G v3) H → va_D (fun q : Nat => s.heap.size ≤ q) (NW cy aN v1 v2 G v3) → va_S (fun q : Nat => s.heap.size ≤ q) s.heap H locs → lv_has ls 18 [(0, .ref b), (1, .ref (aN 0 0)), (2, .int 1)] → W p l e room_1 s m #[Value.ref b] below meth c H locs 600000 7302250 (lw_Z below #[Value.ref b] s) (F0 m 1259 ls []) := by
    intro v1 v2 G v3 H locs ls hc hP hD hS hl
    refine lv_iload_n hx hb dL_law_1259 rfl (lv_at hl 2 rfl) ?_
    refine lv_if_eq (tgt := 1281) hx hb dL_law_1260 (by decide) (fun c9 => absurd c9 (by decide)) (fun _ => ?_)
    refine lv_aload_n hx hb dL_law_1263 rfl (lv_at hl 1 rfl) ?_
    obtain ⟨x18, hc18, hc⟩ := b1_some hc
    refine gc_SI (n := 1) (w' := NW cy aN v1 v2 G v3) hx hb hml hown hts hK hP hD hS hA hl.1 ⟨Nat.le_refl _, Nat.le_refl _⟩ (C_L_addsUp l D cy aN v1 v2 G v3 x18 hc18) gL_law_L_addsUp rfl (by decide +kernel) rfl ⟨by decide, by decide⟩ Jn.same rfl (Nat.le_of_ble_eq_true rfl) dL_law_1264 (fun H locs hP hD hS => ?_)
    refine lv_if_eq (tgt := 1281) hx hb dL_law_1267 (by decide) (fun c19 => ?_) (fun c19 => ?_)
    · replace hc := ite_t c19 hc
      cases hc
    · replace hc := ite_f c19 hc
      refine lv_aload_n hx hb dL_law_1270 rfl (lv_at hl 1 rfl) ?_
      obtain ⟨x20, t20, hc20, hc⟩ := b2_some hc
      refine gc_SI (n := 1) (w' := NW cy aN t20.1 t20.2.1 t20.2.2.1 t20.2.2.2) hx hb hml hown hts hK hP hD hS hA hl.1 ⟨Nat.le_refl _, Nat.le_refl _⟩ (C_L_refused l D cy aN v1 v2 G v3 x20 t20.1 t20.2.1 t20.2.2.1 t20.2.2.2 hc20) gL_law_L_refused rfl (by decide +kernel) rfl ⟨by decide, by decide⟩ Jn.same rfl (Nat.le_of_ble_eq_true rfl) dL_law_1271 (fun H locs hP hD hS => ?_)
      refine lv_if_eq (tgt := 1281) hx hb dL_law_1274 (by decide) (fun c21 => ?_) (fun c21 => ?_)
      · replace hc := ite_t c21 hc
        cases hc
      · replace hc := ite_f c21 hc
        refine lv_iconst (v := 1) hx hb dL_law_1277 (by decide) ?_
        refine lv_goto (tgt := 1282) hx hb dL_law_1278 (by decide) ?_
        refine va_forget (fun q hq => hS.2.2 q hq) ?_
        exact lw_ret hx hb hr hlocks dL_law_1282
  have J1232 : ∀ (k85 : Int32 → FV → FV → (Nat → FV) → FV → Option (Int32 × (FV × FV × (Nat → FV) × FV))) (hk85 : ∀ (y3 : Int32) (v1 : FV) (v2 : FV) (G : (Nat → FV)) (v3 : FV) (H : Heap) (locs : List Loc) (ls : Array Slot), k85 y3 v1 v2 G v3 = some (r, (v1', v2', G', v3')) → va_P D vwCl (NW cy aN v1 v2 G v3) H → va_D (fun q : Nat => s.heap.size ≤ q) (NW cy aN v1 v2 G v3) → va_S (fun q : Nat => s.heap.size ≤ q) s.heap H locs → lv_has ls 18 [(0, .ref b), (1, .ref (aN 0 0)), (2, .int 1), (3, .int y3)] → W p l e room_1 s m #[Value.ref b] below meth c H locs 600000 7302250 (lw_Z below #[Value.ref b] s) (F0 m 85 ls [])), ∀ (y3 : Int32) (v1 : FV) (v2 : FV) (G : (Nat → FV)) (v3 : FV) (H : Heap) (locs : List Loc) (ls : Array Slot), f_L_law_J1232 L xs k85 y3 v1 v2 G v3 = some (r, (v1', v2', G', v3')) → va_P D vwCl (NW cy aN v1 v2 G v3) H → va_D (fun q : Nat => s.heap.size ≤ q) (NW cy aN v1 v2 G v3) → va_S (fun q : Nat => s.heap.size ≤ q) s.heap H locs → lv_has ls 18 [(0, .ref b), (1, .ref (aN 0 0)), (3, .int y3)] → W p l e room_1 s m #[Value.ref b] below meth c H locs 600000 7302250 (lw_Z below #[Value.ref b] s) (F0 m 1232 ls []) := by
    intro k85 hk85 y3 v1 v2 G v3 H locs ls hc hP hD hS hl
    refine lv_iload_n hx hb dL_law_1232 rfl (lv_at hl 2 rfl) ?_
    refine lv_bipush (v := 9) hx hb dL_law_1233 (by decide +kernel) ?_
    refine lv_irem hx hb dL_law_1235 (by decide) ?_
    refine lv_iconst (v := 4) hx hb dL_law_1236 (by decide) ?_
    refine lv_icmp_ne (tgt := 1247) hx hb dL_law_1237 (by decide) (fun c41 => ?_) (fun c41 => ?_)
    · replace hc := ite_f c41 hc
      refine lv_iconst (v := 1) hx hb dL_law_1247 (by decide) ?_
      refine lv_goto (tgt := 1252) hx hb dL_law_1248 (by decide) ?_
      refine lv_istore_n (lv' := [(2, .int 1), (0, .ref b), (1, .ref (aN 0 0)), (3, .int y3)]) hx hb dL_law_1252 rfl hl (by decide) rfl (fun ls hl => ?_)
      refine lv_iinc (v := y3 + 1) (lv' := [(3, .int (y3 + 1)), (2, .int 1), (0, .ref b), (1, .ref (aN 0 0))]) hx hb dL_law_1253 hl (k := 3) rfl rfl (by decide) rfl (fun ls hl => ?_)
      refine lv_goto (tgt := 85) hx hb dL_law_1256 (by decide) ?_
      exact hk85 (y3 + 1) v1 v2 G v3 H locs ls hc hP hD hS (lv_sub hl [2, 3, 1, 0] rfl)
    · replace hc := ite_t c41 hc
      refine lv_aload_n hx hb dL_law_1240 rfl (lv_at hl 1 rfl) ?_
      obtain ⟨x42, t42, hc42, hc⟩ := b2_some hc
      refine gc_SI (n := 1) (w' := NW cy aN t42.1 t42.2.1 t42.2.2.1 t42.2.2.2) hx hb hml hown hts hK hP hD hS hA hl.1 ⟨Nat.le_refl _, Nat.le_refl _⟩ (C_L_refused l D cy aN v1 v2 G v3 x42 t42.1 t42.2.1 t42.2.2.1 t42.2.2.2 hc42) gL_law_L_refused rfl (by decide +kernel) rfl ⟨by decide, by decide⟩ Jn.same rfl (Nat.le_of_ble_eq_true rfl) dL_law_1241 (fun H locs hP hD hS => ?_)
      refine lv_if_eq (tgt := 1251) hx hb dL_law_1244 (by decide) (fun c43 => ?_) (fun c43 => ?_)
      · replace hc := ite_t c43 hc
        cases hc
      · replace hc := ite_f c43 hc
        refine lv_iconst (v := 1) hx hb dL_law_1247 (by decide) ?_
        refine lv_goto (tgt := 1252) hx hb dL_law_1248 (by decide) ?_
        refine lv_istore_n (lv' := [(2, .int 1), (0, .ref b), (1, .ref (aN 0 0)), (3, .int y3)]) hx hb dL_law_1252 rfl hl (by decide) rfl (fun ls hl => ?_)
        refine lv_iinc (v := y3 + 1) (lv' := [(3, .int (y3 + 1)), (2, .int 1), (0, .ref b), (1, .ref (aN 0 0))]) hx hb dL_law_1253 hl (k := 3) rfl rfl (by decide) rfl (fun ls hl => ?_)
        refine lv_goto (tgt := 85) hx hb dL_law_1256 (by decide) ?_
        exact hk85 (y3 + 1) t42.1 t42.2.1 t42.2.2.1 t42.2.2.2 H locs ls hc hP hD hS (lv_sub hl [2, 3, 1, 0] rfl)
  have J1199 : ∀ (k85 : Int32 → FV → FV → (Nat → FV) → FV → Option (Int32 × (FV × FV × (Nat → FV) × FV))) (hk85 : ∀ (y3 : Int32) (v1 : FV) (v2 : FV) (G : (Nat → FV)) (v3 : FV) (H : Heap) (locs : List Loc) (ls : Array Slot), k85 y3 v1 v2 G v3 = some (r, (v1', v2', G', v3')) → va_P D vwCl (NW cy aN v1 v2 G v3) H → va_D (fun q : Nat => s.heap.size ≤ q) (NW cy aN v1 v2 G v3) → va_S (fun q : Nat => s.heap.size ≤ q) s.heap H locs → lv_has ls 18 [(0, .ref b), (1, .ref (aN 0 0)), (2, .int 1), (3, .int y3)] → W p l e room_1 s m #[Value.ref b] below meth c H locs 600000 7302250 (lw_Z below #[Value.ref b] s) (F0 m 85 ls [])), ∀ (y3 : Int32) (y6 : Int32) (y7 : Int32) (y9 : Int32) (y13 : Int32) (v1 : FV) (v2 : FV) (G : (Nat → FV)) (v3 : FV) (H : Heap) (locs : List Loc) (ls : Array Slot), f_L_law_J1199 L xs k85 y3 y6 y7 y9 y13 v1 v2 G v3 = some (r, (v1', v2', G', v3')) → va_P D vwCl (NW cy aN v1 v2 G v3) H → va_D (fun q : Nat => s.heap.size ≤ q) (NW cy aN v1 v2 G v3) → va_S (fun q : Nat => s.heap.size ≤ q) s.heap H locs → lv_has ls 18 [(0, .ref b), (1, .ref (aN 0 0)), (3, .int y3), (6, .int y6), (7, .int y7), (9, .int y9), (13, .int y13)] → W p l e room_1 s m #[Value.ref b] below meth c H locs 600000 7302250 (lw_Z below #[Value.ref b] s) (F0 m 1199 ls []) := by
    intro k85 hk85 y3 y6 y7 y9 y13 v1 v2 G v3 H locs ls hc hP hD hS hl
    refine lv_iload hx hb dL_law_1199 (lv_at hl 6 rfl) ?_
    refine lv_if_eq (tgt := 1232) hx hb dL_law_1201 (by decide) (fun c40 => ?_) (fun c40 => ?_)
    · replace hc := ite_t c40 hc
      exact J1232 k85 hk85 y3 v1 v2 G v3 H locs ls hc hP hD hS (lv_sub hl [0, 1, 2] rfl)
    · replace hc := ite_f c40 hc
      refine lv_iload_n hx hb dL_law_1204 rfl (lv_at hl 2 rfl) ?_
      refine lv_iconst (v := 5) hx hb dL_law_1205 (by decide) ?_
      refine lv_irem hx hb dL_law_1206 (by decide) ?_
      refine lv_iconst (v := 2) hx hb dL_law_1207 (by decide) ?_
      refine lv_icmp_ne (tgt := 1232) hx hb dL_law_1208 (by decide) (fun c44 => ?_) (fun c44 => ?_)
      · replace hc := ite_f c44 hc
        exact J1232 k85 hk85 y3 v1 v2 G v3 H locs ls hc hP hD hS (lv_sub hl [0, 1, 2] rfl)
      · replace hc := ite_t c44 hc
        refine lv_aload_n hx hb dL_law_1211 rfl (lv_at hl 1 rfl) ?_
        refine lv_iload hx hb dL_law_1212 (lv_at hl 3 rfl) ?_
        refine lv_iload hx hb dL_law_1214 (lv_at hl 6 rfl) ?_
        obtain ⟨hz45, hc⟩ := nz_some hc
        refine lv_irem hx hb dL_law_1216 hz45 ?_
        refine lv_iconst (v := 1) hx hb dL_law_1217 (by decide) ?_
        refine lv_iload hx hb dL_law_1218 (lv_at hl 4 rfl) ?_
        refine lv_bipush (v := 60) hx hb dL_law_1220 (by decide +kernel) ?_
        refine lv_irem hx hb dL_law_1222 (by decide) ?_
        refine lv_iadd hx hb dL_law_1223 ?_
        refine lv_iload hx hb dL_law_1224 (lv_at hl 5 rfl) ?_
        obtain ⟨x46, t46, hc46, hc⟩ := b2_some hc
        refine gc_SI (n := 4) (w' := NW cy aN t46.1 t46.2.1 t46.2.2.1 t46.2.2.2) hx hb hml hown hts hK hP hD hS hA hl.1 ⟨Nat.le_refl _, Nat.le_refl _⟩ (C_L_isAhead l D cy aN v1 v2 G v3 (y6 - y6 / y13 * y13) (1 + (y7 - y7 / 60 * 60)) y9 x46 t46.1 t46.2.1 t46.2.2.1 t46.2.2.2 hc46) gL_law_L_isAhead rfl (by decide +kernel) rfl ⟨by decide, by decide⟩ Jn.same rfl (Nat.le_of_ble_eq_true rfl) dL_law_1226 (fun H locs hP hD hS => ?_)
        refine lv_if_eq (tgt := 1251) hx hb dL_law_1229 (by decide) (fun c47 => ?_) (fun c47 => ?_)
        · replace hc := ite_t c47 hc
          cases hc
        · replace hc := ite_f c47 hc
          exact J1232 k85 hk85 y3 t46.1 t46.2.1 t46.2.2.1 t46.2.2.2 H locs ls hc hP hD hS (lv_sub hl [0, 1, 2] rfl)
  have J1143 : ∀ (k85 : Int32 → FV → FV → (Nat → FV) → FV → Option (Int32 × (FV × FV × (Nat → FV) × FV))) (hk85 : ∀ (y3 : Int32) (v1 : FV) (v2 : FV) (G : (Nat → FV)) (v3 : FV) (H : Heap) (locs : List Loc) (ls : Array Slot), k85 y3 v1 v2 G v3 = some (r, (v1', v2', G', v3')) → va_P D vwCl (NW cy aN v1 v2 G v3) H → va_D (fun q : Nat => s.heap.size ≤ q) (NW cy aN v1 v2 G v3) → va_S (fun q : Nat => s.heap.size ≤ q) s.heap H locs → lv_has ls 18 [(0, .ref b), (1, .ref (aN 0 0)), (2, .int 1), (3, .int y3)] → W p l e room_1 s m #[Value.ref b] below meth c H locs 600000 7302250 (lw_Z below #[Value.ref b] s) (F0 m 85 ls [])), ∀ (y3 : Int32) (y6 : Int32) (y7 : Int32) (y9 : Int32) (y12 : Int32) (v1 : FV) (v2 : FV) (G : (Nat → FV)) (v3 : FV) (H : Heap) (locs : List Loc) (ls : Array Slot), f_L_law_J1143 L xs k85 y3 y6 y7 y9 y12 v1 v2 G v3 = some (r, (v1', v2', G', v3')) → va_P D vwCl (NW cy aN v1 v2 G v3) H → va_D (fun q : Nat => s.heap.size ≤ q) (NW cy aN v1 v2 G v3) → va_S (fun q : Nat => s.heap.size ≤ q) s.heap H locs → lv_has ls 18 [(0, .ref b), (1, .ref (aN 0 0)), (2, .int 1), (3, .int y3), (6, .int y6), (7, .int y7), (9, .int y9), (12, .int y12)] → W p l e room_1 s m #[Value.ref b] below meth c H locs 600000 7302250 (lw_Z below #[Value.ref b] s) (F0 m 1143 ls []) := by
    intro k85 hk85 y3 y6 y7 y9 y12 v1 v2 G v3 H locs ls hc hP hD hS hl
    refine lv_aload_n hx hb dL_law_1143 rfl (lv_at hl 1 rfl) ?_
    refine lv_iconst (v := 0) hx hb dL_law_1144 (by decide) ?_
    obtain ⟨x35, hc35, hc⟩ := b1_some hc
    refine gc_VI (n := 1) (q0 := 0) (ci := 3) (w' := NW cy aN v1 v2 G v3) hx hb hml hown hts hK hP hD hS hA hl.1 ⟨Nat.le_refl _, Nat.le_refl _⟩ (C_X3_count l D cy aN v1 v2 G v3 0 x35 hc35) gL_law_X3_count rfl (by decide +kernel) rfl ⟨by decide, by decide⟩ Jn.same rfl rfl rfl (Nat.le_of_ble_eq_true rfl) dL_law_1145 (fun H locs hP hD hS => ?_)
    refine lv_istore (lv' := [(13, .int x35), (0, .ref b), (1, .ref (aN 0 0)), (2, .int 1), (3, .int y3), (6, .int y6), (7, .int y7), (9, .int y9), (12, .int y12)]) hx hb dL_law_1148 hl (by decide) rfl (fun ls hl => ?_)
    refine lv_iload_n hx hb dL_law_1150 rfl (lv_at hl 3 rfl) ?_
    refine lv_if_eq (tgt := 1251) hx hb dL_law_1151 (by decide) (fun c9 => absurd c9 (by decide)) (fun _ => ?_)
    refine lv_iload hx hb dL_law_1154 (lv_at hl 8 rfl) ?_
    refine lv_bipush (v := (-3)) hx hb dL_law_1156 (by decide +kernel) ?_
    refine lv_icmp_lt (tgt := 1251) hx hb dL_law_1158 (by decide) (fun c36 => ?_) (fun c36 => ?_)
    · replace hc := ite_t c36 hc
      cases hc
    · replace hc := ite_f c36 hc
      refine lv_aload_n hx hb dL_law_1161 rfl (lv_at hl 2 rfl) ?_
      obtain ⟨x37, hc37, hc⟩ := b1_some hc
      refine gc_SI (n := 1) (w' := NW cy aN v1 v2 G v3) hx hb hml hown hts hK hP hD hS hA hl.1 ⟨Nat.le_refl _, Nat.le_refl _⟩ (C_L_addsUp l D cy aN v1 v2 G v3 x37 hc37) gL_law_L_addsUp rfl (by decide +kernel) rfl ⟨by decide, by decide⟩ Jn.same rfl (Nat.le_of_ble_eq_true rfl) dL_law_1162 (fun H locs hP hD hS => ?_)
      refine lv_if_eq (tgt := 1251) hx hb dL_law_1165 (by decide) (fun c38 => ?_) (fun c38 => ?_)
      · replace hc := ite_t c38 hc
        cases hc
      · replace hc := ite_f c38 hc
        refine lv_iload hx hb dL_law_1168 (lv_at hl 0 rfl) ?_
        refine lv_if_eq (tgt := 1199) hx hb dL_law_1170 (by decide) (fun c39 => ?_) (fun c39 => ?_)
        · replace hc := ite_t c39 hc
          exact J1199 k85 hk85 y3 y6 y7 y9 x35 v1 v2 G v3 H locs ls hc hP hD hS (lv_sub hl [1, 2, 4, 5, 6, 7, 0] rfl)
        · replace hc := ite_f c39 hc
          refine lv_iload_n hx hb dL_law_1173 rfl (lv_at hl 4 rfl) ?_
          refine lv_iconst (v := 3) hx hb dL_law_1174 (by decide) ?_
          refine lv_irem hx hb dL_law_1175 (by decide) ?_
          refine lv_iconst (v := 1) hx hb dL_law_1176 (by decide) ?_
          refine lv_icmp_ne (tgt := 1199) hx hb dL_law_1177 (by decide) (fun c48 => ?_) (fun c48 => ?_)
          · replace hc := ite_f c48 hc
            exact J1199 k85 hk85 y3 y6 y7 y9 x35 v1 v2 G v3 H locs ls hc hP hD hS (lv_sub hl [1, 2, 4, 5, 6, 7, 0] rfl)
          · replace hc := ite_t c48 hc
            refine lv_aload_n hx hb dL_law_1180 rfl (lv_at hl 2 rfl) ?_
            refine lv_iload hx hb dL_law_1181 (lv_at hl 6 rfl) ?_
            refine lv_iload hx hb dL_law_1183 (lv_at hl 0 rfl) ?_
            obtain ⟨hz49, hc⟩ := nz_some hc
            refine lv_irem hx hb dL_law_1185 hz49 ?_
            refine lv_iconst (v := 1) hx hb dL_law_1186 (by decide) ?_
            refine lv_iload hx hb dL_law_1187 (lv_at hl 5 rfl) ?_
            refine lv_bipush (v := 60) hx hb dL_law_1189 (by decide +kernel) ?_
            refine lv_irem hx hb dL_law_1191 (by decide) ?_
            refine lv_iadd hx hb dL_law_1192 ?_
            obtain ⟨x50, t50, hc50, hc⟩ := b2_some hc
            refine gc_SI (n := 3) (w' := NW cy aN t50.1 t50.2.1 t50.2.2.1 t50.2.2.2) hx hb hml hown hts hK hP hD hS hA hl.1 ⟨Nat.le_refl _, Nat.le_refl _⟩ (C_L_isDrawn l D cy aN v1 v2 G v3 (y7 - y7 / x35 * x35) (1 + (y6 - y6 / 60 * 60)) x50 t50.1 t50.2.1 t50.2.2.1 t50.2.2.2 hc50) gL_law_L_isDrawn rfl (by decide +kernel) rfl ⟨by decide, by decide⟩ Jn.same rfl (Nat.le_of_ble_eq_true rfl) dL_law_1193 (fun H locs hP hD hS => ?_)
            refine lv_if_eq (tgt := 1251) hx hb dL_law_1196 (by decide) (fun c51 => ?_) (fun c51 => ?_)
            · replace hc := ite_t c51 hc
              cases hc
            · replace hc := ite_f c51 hc
              exact J1199 k85 hk85 y3 y6 y7 y9 x35 t50.1 t50.2.1 t50.2.2.1 t50.2.2.2 H locs ls hc hP hD hS (lv_sub hl [1, 2, 4, 5, 6, 7, 0] rfl)
  have J288 : ∀ (k85 : Int32 → FV → FV → (Nat → FV) → FV → Option (Int32 × (FV × FV × (Nat → FV) × FV))) (hk85 : ∀ (y3 : Int32) (v1 : FV) (v2 : FV) (G : (Nat → FV)) (v3 : FV) (H : Heap) (locs : List Loc) (ls : Array Slot), k85 y3 v1 v2 G v3 = some (r, (v1', v2', G', v3')) → va_P D vwCl (NW cy aN v1 v2 G v3) H → va_D (fun q : Nat => s.heap.size ≤ q) (NW cy aN v1 v2 G v3) → va_S (fun q : Nat => s.heap.size ≤ q) s.heap H locs → lv_has ls 18 [(0, .ref b), (1, .ref (aN 0 0)), (2, .int 1), (3, .int y3)] → W p l e room_1 s m #[Value.ref b] below meth c H locs 600000 7302250 (lw_Z below #[Value.ref b] s) (F0 m 85 ls [])), ∀ (y3 : Int32) (y5 : Int32) (y6 : Int32) (y7 : Int32) (y9 : Int32) (z0 : Int32) (v1 : FV) (v2 : FV) (G : (Nat → FV)) (v3 : FV) (H : Heap) (locs : List Loc) (ls : Array Slot), f_L_law_J288 L xs k85 y3 y5 y6 y7 y9 z0 v1 v2 G v3 = some (r, (v1', v2', G', v3')) → va_P D vwCl (NW cy aN v1 v2 G v3) H → va_D (fun q : Nat => s.heap.size ≤ q) (NW cy aN v1 v2 G v3) → va_S (fun q : Nat => s.heap.size ≤ q) s.heap H locs → lv_has ls 18 [(0, .ref b), (1, .ref (aN 0 0)), (3, .int y3), (5, .int y5), (6, .int y6), (7, .int y7), (9, .int y9)] → W p l e room_1 s m #[Value.ref b] below meth c H locs 600000 7302250 (lw_Z below #[Value.ref b] s) (F0 m 288 ls [.int z0, .ref (aN 0 0)]) := by
    intro k85 hk85 y3 y5 y6 y7 y9 z0 v1 v2 G v3 H locs ls hc hP hD hS hl
    refine lv_iconst (v := 1) hx hb dL_law_288 (by decide) ?_
    refine lv_iload hx hb dL_law_289 (lv_at hl 4 rfl) ?_
    refine lv_bipush (v := 120) hx hb dL_law_291 (by decide +kernel) ?_
    refine lv_irem hx hb dL_law_293 (by decide) ?_
    refine lv_iadd hx hb dL_law_294 ?_
    refine lv_iload hx hb dL_law_295 (lv_at hl 5 rfl) ?_
    refine lv_bipush (v := 12) hx hb dL_law_297 (by decide +kernel) ?_
    refine lv_irem hx hb dL_law_299 (by decide) ?_
    refine lv_iload hx hb dL_law_300 (lv_at hl 4 rfl) ?_
    refine lv_bipush (v := 40) hx hb dL_law_302 (by decide +kernel) ?_
    refine lv_irem hx hb dL_law_304 (by decide) ?_
    obtain ⟨x33, t33, hc33, hc⟩ := b2_some hc
    refine gc_VI (n := 4) (q0 := 0) (ci := 3) (w' := NW cy aN t33.1 t33.2.1 t33.2.2.1 t33.2.2.2) hx hb hml hown hts hK hP hD hS hA hl.1 ⟨Nat.le_refl _, Nat.le_refl _⟩ (C_X3_well l D cy aN v1 v2 G v3 z0 (1 + (y6 - y6 / 120 * 120)) (y7 - y7 / 12 * 12) (y6 - y6 / 40 * 40) x33 t33.1 t33.2.1 t33.2.2.1 t33.2.2.2 hc33) gL_law_X3_well rfl (by decide +kernel) rfl ⟨by decide, by decide⟩ Jn.same rfl rfl rfl (Nat.le_of_ble_eq_true rfl) dL_law_305 (fun H locs hP hD hS => ?_)
    refine lv_istore (lv' := [(12, .int x33), (0, .ref b), (1, .ref (aN 0 0)), (3, .int y3), (5, .int y5), (6, .int y6), (7, .int y7), (9, .int y9)]) hx hb dL_law_308 hl (by decide) rfl (fun ls hl => ?_)
    refine lv_iload hx hb dL_law_310 (lv_at hl 0 rfl) ?_
    refine lv_bipush (v := (-3)) hx hb dL_law_312 (by decide +kernel) ?_
    refine lv_icmp_eq (tgt := 334) hx hb dL_law_314 (by decide) (fun c34 => ?_) (fun c34 => ?_)
    · replace hc := ite_t c34 hc
      refine lv_iconst (v := 1) hx hb dL_law_334 (by decide) ?_
      refine lv_goto (tgt := 339) hx hb dL_law_335 (by decide) ?_
      refine lv_istore_n (lv' := [(2, .int 1), (12, .int x33), (0, .ref b), (1, .ref (aN 0 0)), (3, .int y3), (5, .int y5), (6, .int y6), (7, .int y7), (9, .int y9)]) hx hb dL_law_339 rfl hl (by decide) rfl (fun ls hl => ?_)
      refine lv_goto (tgt := 1143) hx hb dL_law_340 (by decide) ?_
      exact J1143 k85 hk85 y3 y6 y7 y9 x33 t33.1 t33.2.1 t33.2.2.1 t33.2.2.2 H locs ls hc hP hD hS (lv_sub hl [2, 3, 0, 4, 6, 7, 8, 1] rfl)
    · replace hc := ite_f c34 hc
      refine lv_iload hx hb dL_law_317 (lv_at hl 0 rfl) ?_
      refine lv_iload hx hb dL_law_319 (lv_at hl 4 rfl) ?_
      refine lv_icmp_ne (tgt := 338) hx hb dL_law_321 (by decide) (fun c52 => ?_) (fun c52 => ?_)
      · replace hc := ite_f c52 hc
        cases hc
      · replace hc := ite_t c52 hc
        refine lv_aload_n hx hb dL_law_324 rfl (lv_at hl 2 rfl) ?_
        refine lv_iload hx hb dL_law_325 (lv_at hl 4 rfl) ?_
        refine lv_iconst (v := 4) hx hb dL_law_327 (by decide) ?_
        obtain ⟨x53, hc53, hc⟩ := b1_some hc
        refine gc_VI (n := 2) (q0 := 0) (ci := 3) (w' := NW cy aN t33.1 t33.2.1 t33.2.2.1 t33.2.2.2) hx hb hml hown hts hK hP hD hS hA hl.1 ⟨Nat.le_refl _, Nat.le_refl _⟩ (C_X3_wellOf l D cy aN t33.1 t33.2.1 t33.2.2.1 t33.2.2.2 y5 4 x53 hc53) gL_law_X3_wellOf rfl (by decide +kernel) rfl ⟨by decide, by decide⟩ Jn.same rfl rfl rfl (Nat.le_of_ble_eq_true rfl) dL_law_328 (fun H locs hP hD hS => ?_)
        refine lv_if_ne (tgt := 338) hx hb dL_law_331 (by decide) (fun c54 => ?_) (fun c54 => ?_)
        · replace hc := ite_f c54 hc
          cases hc
        · replace hc := ite_t c54 hc
          refine lv_iconst (v := 1) hx hb dL_law_334 (by decide) ?_
          refine lv_goto (tgt := 339) hx hb dL_law_335 (by decide) ?_
          refine lv_istore_n (lv' := [(2, .int 1), (12, .int x33), (0, .ref b), (1, .ref (aN 0 0)), (3, .int y3), (5, .int y5), (6, .int y6), (7, .int y7), (9, .int y9)]) hx hb dL_law_339 rfl hl (by decide) rfl (fun ls hl => ?_)
          refine lv_goto (tgt := 1143) hx hb dL_law_340 (by decide) ?_
          exact J1143 k85 hk85 y3 y6 y7 y9 x33 t33.1 t33.2.1 t33.2.2.1 t33.2.2.2 H locs ls hc hP hD hS (lv_sub hl [2, 3, 0, 4, 6, 7, 8, 1] rfl)
  have J276 : ∀ (k85 : Int32 → FV → FV → (Nat → FV) → FV → Option (Int32 × (FV × FV × (Nat → FV) × FV))) (hk85 : ∀ (y3 : Int32) (v1 : FV) (v2 : FV) (G : (Nat → FV)) (v3 : FV) (H : Heap) (locs : List Loc) (ls : Array Slot), k85 y3 v1 v2 G v3 = some (r, (v1', v2', G', v3')) → va_P D vwCl (NW cy aN v1 v2 G v3) H → va_D (fun q : Nat => s.heap.size ≤ q) (NW cy aN v1 v2 G v3) → va_S (fun q : Nat => s.heap.size ≤ q) s.heap H locs → lv_has ls 18 [(0, .ref b), (1, .ref (aN 0 0)), (2, .int 1), (3, .int y3)] → W p l e room_1 s m #[Value.ref b] below meth c H locs 600000 7302250 (lw_Z below #[Value.ref b] s) (F0 m 85 ls [])), ∀ (y3 : Int32) (y5 : Int32) (y6 : Int32) (y7 : Int32) (y8 : Int32) (y9 : Int32) (v1 : FV) (v2 : FV) (G : (Nat → FV)) (v3 : FV) (H : Heap) (locs : List Loc) (ls : Array Slot), f_L_law_J276 L xs k85 y3 y5 y6 y7 y8 y9 v1 v2 G v3 = some (r, (v1', v2', G', v3')) → va_P D vwCl (NW cy aN v1 v2 G v3) H → va_D (fun q : Nat => s.heap.size ≤ q) (NW cy aN v1 v2 G v3) → va_S (fun q : Nat => s.heap.size ≤ q) s.heap H locs → lv_has ls 18 [(0, .ref b), (1, .ref (aN 0 0)), (3, .int y3), (5, .int y5), (6, .int y6), (7, .int y7), (8, .int y8), (9, .int y9)] → W p l e room_1 s m #[Value.ref b] below meth c H locs 600000 7302250 (lw_Z below #[Value.ref b] s) (F0 m 276 ls []) := by
    intro k85 hk85 y3 y5 y6 y7 y8 y9 v1 v2 G v3 H locs ls hc hP hD hS hl
    refine lv_aload_n hx hb dL_law_276 rfl (lv_at hl 1 rfl) ?_
    refine lv_iload hx hb dL_law_277 (lv_at hl 3 rfl) ?_
    refine lv_if_ne (tgt := 286) hx hb dL_law_279 (by decide) (fun c32 => ?_) (fun c32 => ?_)
    · replace hc := ite_f c32 hc
      refine lv_iload hx hb dL_law_286 (lv_at hl 6 rfl) ?_
      exact J288 k85 hk85 y3 y5 y6 y7 y9 y8 v1 v2 G v3 H locs ls hc hP hD hS (lv_sub hl [0, 1, 2, 3, 4, 5, 7] rfl)
    · replace hc := ite_t c32 hc
      refine lv_iconst (v := (-1)) hx hb dL_law_282 (by decide) ?_
      refine lv_goto (tgt := 288) hx hb dL_law_283 (by decide) ?_
      exact J288 k85 hk85 y3 y5 y6 y7 y9 ((-1)) v1 v2 G v3 H locs ls hc hP hD hS (lv_sub hl [0, 1, 2, 3, 4, 5, 7] rfl)
  have J343 : ∀ (k85 : Int32 → FV → FV → (Nat → FV) → FV → Option (Int32 × (FV × FV × (Nat → FV) × FV))) (hk85 : ∀ (y3 : Int32) (v1 : FV) (v2 : FV) (G : (Nat → FV)) (v3 : FV) (H : Heap) (locs : List Loc) (ls : Array Slot), k85 y3 v1 v2 G v3 = some (r, (v1', v2', G', v3')) → va_P D vwCl (NW cy aN v1 v2 G v3) H → va_D (fun q : Nat => s.heap.size ≤ q) (NW cy aN v1 v2 G v3) → va_S (fun q : Nat => s.heap.size ≤ q) s.heap H locs → lv_has ls 18 [(0, .ref b), (1, .ref (aN 0 0)), (2, .int 1), (3, .int y3)] → W p l e room_1 s m #[Value.ref b] below meth c H locs 600000 7302250 (lw_Z below #[Value.ref b] s) (F0 m 85 ls [])), ∀ (y3 : Int32) (y6 : Int32) (y7 : Int32) (y8 : Int32) (y9 : Int32) (v1 : FV) (v2 : FV) (G : (Nat → FV)) (v3 : FV) (H : Heap) (locs : List Loc) (ls : Array Slot), f_L_law_J343 L xs k85 y3 y6 y7 y8 y9 v1 v2 G v3 = some (r, (v1', v2', G', v3')) → va_P D vwCl (NW cy aN v1 v2 G v3) H → va_D (fun q : Nat => s.heap.size ≤ q) (NW cy aN v1 v2 G v3) → va_S (fun q : Nat => s.heap.size ≤ q) s.heap H locs → lv_has ls 18 [(0, .ref b), (1, .ref (aN 0 0)), (3, .int y3), (6, .int y6), (7, .int y7), (8, .int y8), (9, .int y9)] → W p l e room_1 s m #[Value.ref b] below meth c H locs 600000 7302250 (lw_Z below #[Value.ref b] s) (F0 m 343 ls []) := by
    intro k85 hk85 y3 y6 y7 y8 y9 v1 v2 G v3 H locs ls hc hP hD hS hl
    refine lv_aload_n hx hb dL_law_343 rfl (lv_at hl 1 rfl) ?_
    refine lv_iload hx hb dL_law_344 (lv_at hl 5 rfl) ?_
    refine lv_aload_n hx hb dL_law_346 rfl (lv_at hl 1 rfl) ?_
    refine lv_iconst (v := 2) hx hb dL_law_347 (by decide) ?_
    obtain ⟨x57, hc57, hc⟩ := b1_some hc
    refine gc_VI (n := 1) (q0 := 0) (ci := 3) (w' := NW cy aN v1 v2 G v3) hx hb hml hown hts hK hP hD hS hA hl.1 ⟨Nat.le_refl _, Nat.le_refl _⟩ (C_X3_count l D cy aN v1 v2 G v3 2 x57 hc57) gL_law_X3_count rfl (by decide +kernel) rfl ⟨by decide, by decide⟩ Jn.same rfl rfl rfl (Nat.le_of_ble_eq_true rfl) dL_law_348 (fun H locs hP hD hS => ?_)
    refine lv_iconst (v := 1) hx hb dL_law_351 (by decide) ?_
    refine lv_iadd hx hb dL_law_352 ?_
    refine lv_iload hx hb dL_law_353 (lv_at hl 3 rfl) ?_
    refine lv_bipush (v := 9) hx hb dL_law_355 (by decide +kernel) ?_
    refine lv_irem hx hb dL_law_357 (by decide) ?_
    refine lv_iadd hx hb dL_law_358 ?_
    refine lv_aload_n hx hb dL_law_359 rfl (lv_at hl 1 rfl) ?_
    refine lv_iconst (v := 2) hx hb dL_law_360 (by decide) ?_
    obtain ⟨x58, hc58, hc⟩ := b1_some hc
    refine gc_VI (n := 1) (q0 := 0) (ci := 3) (w' := NW cy aN v1 v2 G v3) hx hb hml hown hts hK hP hD hS hA hl.1 ⟨Nat.le_refl _, Nat.le_refl _⟩ (C_X3_count l D cy aN v1 v2 G v3 2 x58 hc58) gL_law_X3_count rfl (by decide +kernel) rfl ⟨by decide, by decide⟩ Jn.same rfl rfl rfl (Nat.le_of_ble_eq_true rfl) dL_law_361 (fun H locs hP hD hS => ?_)
    refine lv_bipush (v := 9) hx hb dL_law_364 (by decide +kernel) ?_
    refine lv_iadd hx hb dL_law_366 ?_
    refine lv_iload hx hb dL_law_367 (lv_at hl 4 rfl) ?_
    refine lv_bipush (v := 30) hx hb dL_law_369 (by decide +kernel) ?_
    refine lv_irem hx hb dL_law_371 (by decide) ?_
    refine lv_iadd hx hb dL_law_372 ?_
    obtain ⟨x59, t59, hc59, hc⟩ := b2_some hc
    refine gc_VI (n := 3) (q0 := 0) (ci := 3) (w' := NW cy aN t59.1 t59.2.1 t59.2.2.1 t59.2.2.2) hx hb hml hown hts hK hP hD hS hA hl.1 ⟨Nat.le_refl _, Nat.le_refl _⟩ (C_X3_drought l D cy aN v1 v2 G v3 y8 ((x57 + 1) + (y6 - y6 / 9 * 9)) ((x58 + 9) + (y7 - y7 / 30 * 30)) x59 t59.1 t59.2.1 t59.2.2.1 t59.2.2.2 hc59) gL_law_X3_drought rfl (by decide +kernel) rfl ⟨by decide, by decide⟩ Jn.same rfl rfl rfl (Nat.le_of_ble_eq_true rfl) dL_law_373 (fun H locs hP hD hS => ?_)
    refine lv_istore (lv' := [(12, .int x59), (0, .ref b), (1, .ref (aN 0 0)), (3, .int y3), (6, .int y6), (7, .int y7), (8, .int y8), (9, .int y9)]) hx hb dL_law_376 hl (by decide) rfl (fun ls hl => ?_)
    refine lv_iload hx hb dL_law_378 (lv_at hl 0 rfl) ?_
    refine lv_bipush (v := (-3)) hx hb dL_law_380 (by decide +kernel) ?_
    refine lv_icmp_eq (tgt := 409) hx hb dL_law_382 (by decide) (fun c60 => ?_) (fun c60 => ?_)
    · replace hc := ite_t c60 hc
      refine lv_iconst (v := 1) hx hb dL_law_409 (by decide) ?_
      refine lv_goto (tgt := 414) hx hb dL_law_410 (by decide) ?_
      refine lv_istore_n (lv' := [(2, .int 1), (12, .int x59), (0, .ref b), (1, .ref (aN 0 0)), (3, .int y3), (6, .int y6), (7, .int y7), (8, .int y8), (9, .int y9)]) hx hb dL_law_414 rfl hl (by decide) rfl (fun ls hl => ?_)
      refine lv_goto (tgt := 1143) hx hb dL_law_415 (by decide) ?_
      exact J1143 k85 hk85 y3 y6 y7 y9 x59 t59.1 t59.2.1 t59.2.2.1 t59.2.2.2 H locs ls hc hP hD hS (lv_sub hl [2, 3, 0, 4, 5, 6, 8, 1] rfl)
    · replace hc := ite_f c60 hc
      refine lv_iload hx hb dL_law_385 (lv_at hl 0 rfl) ?_
      refine lv_aload_n hx hb dL_law_387 rfl (lv_at hl 2 rfl) ?_
      refine lv_iconst (v := 1) hx hb dL_law_388 (by decide) ?_
      obtain ⟨x61, hc61, hc⟩ := b1_some hc
      refine gc_VI (n := 1) (q0 := 0) (ci := 3) (w' := NW cy aN t59.1 t59.2.1 t59.2.2.1 t59.2.2.2) hx hb hml hown hts hK hP hD hS hA hl.1 ⟨Nat.le_refl _, Nat.le_refl _⟩ (C_X3_count l D cy aN t59.1 t59.2.1 t59.2.2.1 t59.2.2.2 1 x61 hc61) gL_law_X3_count rfl (by decide +kernel) rfl ⟨by decide, by decide⟩ Jn.same rfl rfl rfl (Nat.le_of_ble_eq_true rfl) dL_law_389 (fun H locs hP hD hS => ?_)
      refine lv_iconst (v := 1) hx hb dL_law_392 (by decide) ?_
      refine lv_isub hx hb dL_law_393 ?_
      refine lv_icmp_ne (tgt := 413) hx hb dL_law_394 (by decide) (fun c62 => ?_) (fun c62 => ?_)
      · replace hc := ite_f c62 hc
        cases hc
      · replace hc := ite_t c62 hc
        refine lv_aload_n hx hb dL_law_397 rfl (lv_at hl 2 rfl) ?_
        refine lv_iload hx hb dL_law_398 (lv_at hl 0 rfl) ?_
        refine lv_iconst (v := 0) hx hb dL_law_400 (by decide) ?_
        obtain ⟨x63, hc63, hc⟩ := b1_some hc
        refine gc_VI (n := 2) (q0 := 0) (ci := 3) (w' := NW cy aN t59.1 t59.2.1 t59.2.2.1 t59.2.2.2) hx hb hml hown hts hK hP hD hS hA hl.1 ⟨Nat.le_refl _, Nat.le_refl _⟩ (C_X3_droughtOf l D cy aN t59.1 t59.2.1 t59.2.2.1 t59.2.2.2 x59 0 x63 hc63) gL_law_X3_droughtOf rfl (by decide +kernel) rfl ⟨by decide, by decide⟩ Jn.same rfl rfl rfl (Nat.le_of_ble_eq_true rfl) dL_law_401 (fun H locs hP hD hS => ?_)
        refine lv_iload hx hb dL_law_404 (lv_at hl 6 rfl) ?_
        refine lv_icmp_ne (tgt := 413) hx hb dL_law_406 (by decide) (fun c64 => ?_) (fun c64 => ?_)
        · replace hc := ite_f c64 hc
          cases hc
        · replace hc := ite_t c64 hc
          refine lv_iconst (v := 1) hx hb dL_law_409 (by decide) ?_
          refine lv_goto (tgt := 414) hx hb dL_law_410 (by decide) ?_
          refine lv_istore_n (lv' := [(2, .int 1), (12, .int x59), (0, .ref b), (1, .ref (aN 0 0)), (3, .int y3), (6, .int y6), (7, .int y7), (8, .int y8), (9, .int y9)]) hx hb dL_law_414 rfl hl (by decide) rfl (fun ls hl => ?_)
          refine lv_goto (tgt := 1143) hx hb dL_law_415 (by decide) ?_
          exact J1143 k85 hk85 y3 y6 y7 y9 x59 t59.1 t59.2.1 t59.2.2.1 t59.2.2.2 H locs ls hc hP hD hS (lv_sub hl [2, 3, 0, 4, 5, 6, 8, 1] rfl)
  have J418 : ∀ (k85 : Int32 → FV → FV → (Nat → FV) → FV → Option (Int32 × (FV × FV × (Nat → FV) × FV))) (hk85 : ∀ (y3 : Int32) (v1 : FV) (v2 : FV) (G : (Nat → FV)) (v3 : FV) (H : Heap) (locs : List Loc) (ls : Array Slot), k85 y3 v1 v2 G v3 = some (r, (v1', v2', G', v3')) → va_P D vwCl (NW cy aN v1 v2 G v3) H → va_D (fun q : Nat => s.heap.size ≤ q) (NW cy aN v1 v2 G v3) → va_S (fun q : Nat => s.heap.size ≤ q) s.heap H locs → lv_has ls 18 [(0, .ref b), (1, .ref (aN 0 0)), (2, .int 1), (3, .int y3)] → W p l e room_1 s m #[Value.ref b] below meth c H locs 600000 7302250 (lw_Z below #[Value.ref b] s) (F0 m 85 ls [])), ∀ (y3 : Int32) (y6 : Int32) (y7 : Int32) (y8 : Int32) (y9 : Int32) (y11 : Int32) (v1 : FV) (v2 : FV) (G : (Nat → FV)) (v3 : FV) (H : Heap) (locs : List Loc) (ls : Array Slot), f_L_law_J418 L xs k85 y3 y6 y7 y8 y9 y11 v1 v2 G v3 = some (r, (v1', v2', G', v3')) → va_P D vwCl (NW cy aN v1 v2 G v3) H → va_D (fun q : Nat => s.heap.size ≤ q) (NW cy aN v1 v2 G v3) → va_S (fun q : Nat => s.heap.size ≤ q) s.heap H locs → lv_has ls 18 [(0, .ref b), (1, .ref (aN 0 0)), (3, .int y3), (6, .int y6), (7, .int y7), (8, .int y8), (9, .int y9), (11, .int y11)] → W p l e room_1 s m #[Value.ref b] below meth c H locs 600000 7302250 (lw_Z below #[Value.ref b] s) (F0 m 418 ls []) := by
    intro k85 hk85 y3 y6 y7 y8 y9 y11 v1 v2 G v3 H locs ls hc hP hD hS hl
    refine lv_aload_n hx hb dL_law_418 rfl (lv_at hl 1 rfl) ?_
    refine lv_iload hx hb dL_law_419 (lv_at hl 5 rfl) ?_
    obtain ⟨x66, t66, hc66, hc⟩ := b2_some hc
    refine gc_VI (n := 1) (q0 := 0) (ci := 3) (w' := NW cy aN t66.1 t66.2.1 t66.2.2.1 t66.2.2.2) hx hb hml hown hts hK hP hD hS hA hl.1 ⟨Nat.le_refl _, Nat.le_refl _⟩ (C_X3_able l D cy aN v1 v2 G v3 y8 x66 t66.1 t66.2.1 t66.2.2.1 t66.2.2.2 hc66) gL_law_X3_able rfl (by decide +kernel) rfl ⟨by decide, by decide⟩ Jn.same rfl rfl rfl (Nat.le_of_ble_eq_true rfl) dL_law_421 (fun H locs hP hD hS => ?_)
    refine lv_istore (lv' := [(13, .int x66), (0, .ref b), (1, .ref (aN 0 0)), (3, .int y3), (6, .int y6), (7, .int y7), (8, .int y8), (9, .int y9), (11, .int y11)]) hx hb dL_law_424 hl (by decide) rfl (fun ls hl => ?_)
    refine lv_aload_n hx hb dL_law_426 rfl (lv_at hl 2 rfl) ?_
    refine lv_iload hx hb dL_law_427 (lv_at hl 6 rfl) ?_
    refine lv_iload hx hb dL_law_429 (lv_at hl 7 rfl) ?_
    obtain ⟨x67, t67, hc67, hc⟩ := b2_some hc
    refine gc_VI (n := 2) (q0 := 0) (ci := 3) (w' := NW cy aN t67.1 t67.2.1 t67.2.2.1 t67.2.2.2) hx hb hml hown hts hK hP hD hS hA hl.1 ⟨Nat.le_refl _, Nat.le_refl _⟩ (C_X3_draw l D cy aN t66.1 t66.2.1 t66.2.2.1 t66.2.2.2 y8 y9 x67 t67.1 t67.2.1 t67.2.2.1 t67.2.2.2 hc67) gL_law_X3_draw rfl (by decide +kernel) rfl ⟨by decide, by decide⟩ Jn.same rfl rfl rfl (Nat.le_of_ble_eq_true rfl) dL_law_431 (fun H locs hP hD hS => ?_)
    refine lv_istore (lv' := [(12, .int x67), (13, .int x66), (0, .ref b), (1, .ref (aN 0 0)), (3, .int y3), (6, .int y6), (7, .int y7), (8, .int y8), (9, .int y9), (11, .int y11)]) hx hb dL_law_434 hl (by decide) rfl (fun ls hl => ?_)
    refine lv_iload hx hb dL_law_436 (lv_at hl 8 rfl) ?_
    refine lv_iload hx hb dL_law_438 (lv_at hl 1 rfl) ?_
    refine lv_icmp_le (tgt := 458) hx hb dL_law_440 (by decide) (fun c68 => ?_) (fun c68 => ?_)
    · replace hc := ite_t c68 hc
      refine lv_iload hx hb dL_law_458 (lv_at hl 0 rfl) ?_
      refine lv_if_lt (tgt := 481) hx hb dL_law_460 (by decide) (fun c69 => ?_) (fun c69 => ?_)
      · replace hc := ite_t c69 hc
        cases hc
      · replace hc := ite_f c69 hc
        refine lv_aload_n hx hb dL_law_463 rfl (lv_at hl 3 rfl) ?_
        refine lv_bipush (v := 6) hx hb dL_law_464 (by decide +kernel) ?_
        obtain ⟨x70, hc70, hc⟩ := b1_some hc
        refine gc_VI (n := 1) (q0 := 0) (ci := 3) (w' := NW cy aN t67.1 t67.2.1 t67.2.2.1 t67.2.2.2) hx hb hml hown hts hK hP hD hS hA hl.1 ⟨Nat.le_refl _, Nat.le_refl _⟩ (C_X3_count l D cy aN t67.1 t67.2.1 t67.2.2.1 t67.2.2.2 6 x70 hc70) gL_law_X3_count rfl (by decide +kernel) rfl ⟨by decide, by decide⟩ Jn.same rfl rfl rfl (Nat.le_of_ble_eq_true rfl) dL_law_466 (fun H locs hP hD hS => ?_)
        refine lv_iload hx hb dL_law_469 (lv_at hl 9 rfl) ?_
        refine lv_iload hx hb dL_law_471 (lv_at hl 8 rfl) ?_
        refine lv_iadd hx hb dL_law_473 ?_
        refine lv_icmp_ne (tgt := 481) hx hb dL_law_474 (by decide) (fun c71 => ?_) (fun c71 => ?_)
        · replace hc := ite_f c71 hc
          cases hc
        · replace hc := ite_t c71 hc
          refine lv_iconst (v := 1) hx hb dL_law_477 (by decide) ?_
          refine lv_goto (tgt := 482) hx hb dL_law_478 (by decide) ?_
          refine lv_istore_n (lv' := [(2, .int 1), (12, .int x67), (13, .int x66), (0, .ref b), (1, .ref (aN 0 0)), (3, .int y3), (6, .int y6), (7, .int y7), (8, .int y8), (9, .int y9), (11, .int y11)]) hx hb dL_law_482 rfl hl (by decide) rfl (fun ls hl => ?_)
          refine lv_goto (tgt := 1143) hx hb dL_law_483 (by decide) ?_
          exact J1143 k85 hk85 y3 y6 y7 y9 x67 t67.1 t67.2.1 t67.2.2.1 t67.2.2.2 H locs ls hc hP hD hS (lv_sub hl [3, 4, 0, 5, 6, 7, 9, 1] rfl)
    · replace hc := ite_f c68 hc
      refine lv_iload hx hb dL_law_443 (lv_at hl 0 rfl) ?_
      refine lv_bipush (v := (-2)) hx hb dL_law_445 (by decide +kernel) ?_
      refine lv_icmp_ne (tgt := 454) hx hb dL_law_447 (by decide) (fun c72 => ?_) (fun c72 => ?_)
      · replace hc := ite_f c72 hc
        cases hc
      · replace hc := ite_t c72 hc
        refine lv_iconst (v := 1) hx hb dL_law_450 (by decide) ?_
        refine lv_goto (tgt := 482) hx hb dL_law_451 (by decide) ?_
        refine lv_istore_n (lv' := [(2, .int 1), (12, .int x67), (13, .int x66), (0, .ref b), (1, .ref (aN 0 0)), (3, .int y3), (6, .int y6), (7, .int y7), (8, .int y8), (9, .int y9), (11, .int y11)]) hx hb dL_law_482 rfl hl (by decide) rfl (fun ls hl => ?_)
        refine lv_goto (tgt := 1143) hx hb dL_law_483 (by decide) ?_
        exact J1143 k85 hk85 y3 y6 y7 y9 x67 t67.1 t67.2.1 t67.2.2.1 t67.2.2.2 H locs ls hc hP hD hS (lv_sub hl [3, 4, 0, 5, 6, 7, 9, 1] rfl)
  have J543 : ∀ (k85 : Int32 → FV → FV → (Nat → FV) → FV → Option (Int32 × (FV × FV × (Nat → FV) × FV))) (hk85 : ∀ (y3 : Int32) (v1 : FV) (v2 : FV) (G : (Nat → FV)) (v3 : FV) (H : Heap) (locs : List Loc) (ls : Array Slot), k85 y3 v1 v2 G v3 = some (r, (v1', v2', G', v3')) → va_P D vwCl (NW cy aN v1 v2 G v3) H → va_D (fun q : Nat => s.heap.size ≤ q) (NW cy aN v1 v2 G v3) → va_S (fun q : Nat => s.heap.size ≤ q) s.heap H locs → lv_has ls 18 [(0, .ref b), (1, .ref (aN 0 0)), (2, .int 1), (3, .int y3)] → W p l e room_1 s m #[Value.ref b] below meth c H locs 600000 7302250 (lw_Z below #[Value.ref b] s) (F0 m 85 ls [])), ∀ (y3 : Int32) (y6 : Int32) (y7 : Int32) (y9 : Int32) (y10 : Int32) (y12 : Int32) (v1 : FV) (v2 : FV) (G : (Nat → FV)) (v3 : FV) (H : Heap) (locs : List Loc) (ls : Array Slot), f_L_law_J543 L xs k85 y3 y6 y7 y9 y10 y12 v1 v2 G v3 = some (r, (v1', v2', G', v3')) → va_P D vwCl (NW cy aN v1 v2 G v3) H → va_D (fun q : Nat => s.heap.size ≤ q) (NW cy aN v1 v2 G v3) → va_S (fun q : Nat => s.heap.size ≤ q) s.heap H locs → lv_has ls 18 [(0, .ref b), (1, .ref (aN 0 0)), (3, .int y3), (6, .int y6), (7, .int y7), (9, .int y9), (10, .int y10), (12, .int y12)] → W p l e room_1 s m #[Value.ref b] below meth c H locs 600000 7302250 (lw_Z below #[Value.ref b] s) (F0 m 543 ls []) := by
    intro k85 hk85 y3 y6 y7 y9 y10 y12 v1 v2 G v3 H locs ls hc hP hD hS hl
    refine lv_iload hx hb dL_law_543 (lv_at hl 6 rfl) ?_
    refine lv_bipush (v := 8) hx hb dL_law_545 (by decide +kernel) ?_
    refine lv_icmp_ne (tgt := 565) hx hb dL_law_547 (by decide) (fun c78 => ?_) (fun c78 => ?_)
    · replace hc := ite_f c78 hc
      refine lv_iload hx hb dL_law_565 (lv_at hl 7 rfl) ?_
      refine lv_iload hx hb dL_law_567 (lv_at hl 6 rfl) ?_
      refine lv_iconst (v := 1) hx hb dL_law_569 (by decide) ?_
      refine lv_iadd hx hb dL_law_570 ?_
      refine lv_icmp_ne (tgt := 605) hx hb dL_law_571 (by decide) (fun c79 => ?_) (fun c79 => ?_)
      · replace hc := ite_f c79 hc
        cases hc
      · replace hc := ite_t c79 hc
        refine lv_aload_n hx hb dL_law_574 rfl (lv_at hl 1 rfl) ?_
        refine lv_iload hx hb dL_law_575 (lv_at hl 7 rfl) ?_
        refine lv_iconst (v := 1) hx hb dL_law_577 (by decide) ?_
        obtain ⟨x80, hc80, hc⟩ := b1_some hc
        refine gc_VI (n := 2) (q0 := 0) (ci := 3) (w' := NW cy aN v1 v2 G v3) hx hb hml hown hts hK hP hD hS hA hl.1 ⟨Nat.le_refl _, Nat.le_refl _⟩ (C_X3_requestAt l D cy aN v1 v2 G v3 y12 1 x80 hc80) gL_law_X3_requestAt rfl (by decide +kernel) rfl ⟨by decide, by decide⟩ Jn.same rfl rfl rfl (Nat.le_of_ble_eq_true rfl) dL_law_578 (fun H locs hP hD hS => ?_)
        refine lv_iload hx hb dL_law_581 (lv_at hl 5 rfl) ?_
        refine lv_icmp_ne (tgt := 605) hx hb dL_law_583 (by decide) (fun c81 => ?_) (fun c81 => ?_)
        · replace hc := ite_f c81 hc
          cases hc
        · replace hc := ite_t c81 hc
          refine lv_aload_n hx hb dL_law_586 rfl (lv_at hl 1 rfl) ?_
          refine lv_iload hx hb dL_law_587 (lv_at hl 7 rfl) ?_
          refine lv_iconst (v := 2) hx hb dL_law_589 (by decide) ?_
          obtain ⟨x82, hc82, hc⟩ := b1_some hc
          refine gc_VI (n := 2) (q0 := 0) (ci := 3) (w' := NW cy aN v1 v2 G v3) hx hb hml hown hts hK hP hD hS hA hl.1 ⟨Nat.le_refl _, Nat.le_refl _⟩ (C_X3_requestAt l D cy aN v1 v2 G v3 y12 2 x82 hc82) gL_law_X3_requestAt rfl (by decide +kernel) rfl ⟨by decide, by decide⟩ Jn.same rfl rfl rfl (Nat.le_of_ble_eq_true rfl) dL_law_590 (fun H locs hP hD hS => ?_)
          refine lv_aload_n hx hb dL_law_593 rfl (lv_at hl 1 rfl) ?_
          refine lv_iconst (v := 2) hx hb dL_law_594 (by decide) ?_
          obtain ⟨x83, hc83, hc⟩ := b1_some hc
          refine gc_VI (n := 1) (q0 := 0) (ci := 3) (w' := NW cy aN v1 v2 G v3) hx hb hml hown hts hK hP hD hS hA hl.1 ⟨Nat.le_refl _, Nat.le_refl _⟩ (C_X3_count l D cy aN v1 v2 G v3 2 x83 hc83) gL_law_X3_count rfl (by decide +kernel) rfl ⟨by decide, by decide⟩ Jn.same rfl rfl rfl (Nat.le_of_ble_eq_true rfl) dL_law_595 (fun H locs hP hD hS => ?_)
          refine lv_icmp_ne (tgt := 605) hx hb dL_law_598 (by decide) (fun c84 => ?_) (fun c84 => ?_)
          · replace hc := ite_f c84 hc
            cases hc
          · replace hc := ite_t c84 hc
            refine lv_iconst (v := 1) hx hb dL_law_601 (by decide) ?_
            refine lv_goto (tgt := 606) hx hb dL_law_602 (by decide) ?_
            refine lv_istore_n (lv' := [(2, .int 1), (0, .ref b), (1, .ref (aN 0 0)), (3, .int y3), (6, .int y6), (7, .int y7), (9, .int y9), (10, .int y10), (12, .int y12)]) hx hb dL_law_606 rfl hl (by decide) rfl (fun ls hl => ?_)
            refine lv_goto (tgt := 1143) hx hb dL_law_607 (by decide) ?_
            exact J1143 k85 hk85 y3 y6 y7 y9 y12 v1 v2 G v3 H locs ls hc hP hD hS (lv_sub hl [1, 2, 0, 3, 4, 5, 6, 8] rfl)
    · replace hc := ite_t c78 hc
      refine lv_iload hx hb dL_law_550 (lv_at hl 7 rfl) ?_
      refine lv_bipush (v := (-3)) hx hb dL_law_552 (by decide +kernel) ?_
      refine lv_icmp_ne (tgt := 561) hx hb dL_law_554 (by decide) (fun c85 => ?_) (fun c85 => ?_)
      · replace hc := ite_f c85 hc
        cases hc
      · replace hc := ite_t c85 hc
        refine lv_iconst (v := 1) hx hb dL_law_557 (by decide) ?_
        refine lv_goto (tgt := 606) hx hb dL_law_558 (by decide) ?_
        refine lv_istore_n (lv' := [(2, .int 1), (0, .ref b), (1, .ref (aN 0 0)), (3, .int y3), (6, .int y6), (7, .int y7), (9, .int y9), (10, .int y10), (12, .int y12)]) hx hb dL_law_606 rfl hl (by decide) rfl (fun ls hl => ?_)
        refine lv_goto (tgt := 1143) hx hb dL_law_607 (by decide) ?_
        exact J1143 k85 hk85 y3 y6 y7 y9 y12 v1 v2 G v3 H locs ls hc hP hD hS (lv_sub hl [1, 2, 0, 3, 4, 5, 6, 8] rfl)
  have J486 : ∀ (k85 : Int32 → FV → FV → (Nat → FV) → FV → Option (Int32 × (FV × FV × (Nat → FV) × FV))) (hk85 : ∀ (y3 : Int32) (v1 : FV) (v2 : FV) (G : (Nat → FV)) (v3 : FV) (H : Heap) (locs : List Loc) (ls : Array Slot), k85 y3 v1 v2 G v3 = some (r, (v1', v2', G', v3')) → va_P D vwCl (NW cy aN v1 v2 G v3) H → va_D (fun q : Nat => s.heap.size ≤ q) (NW cy aN v1 v2 G v3) → va_S (fun q : Nat => s.heap.size ≤ q) s.heap H locs → lv_has ls 18 [(0, .ref b), (1, .ref (aN 0 0)), (2, .int 1), (3, .int y3)] → W p l e room_1 s m #[Value.ref b] below meth c H locs 600000 7302250 (lw_Z below #[Value.ref b] s) (F0 m 85 ls [])), ∀ (y3 : Int32) (y6 : Int32) (y7 : Int32) (y8 : Int32) (y9 : Int32) (y10 : Int32) (y11 : Int32) (v1 : FV) (v2 : FV) (G : (Nat → FV)) (v3 : FV) (H : Heap) (locs : List Loc) (ls : Array Slot), f_L_law_J486 L xs k85 y3 y6 y7 y8 y9 y10 y11 v1 v2 G v3 = some (r, (v1', v2', G', v3')) → va_P D vwCl (NW cy aN v1 v2 G v3) H → va_D (fun q : Nat => s.heap.size ≤ q) (NW cy aN v1 v2 G v3) → va_S (fun q : Nat => s.heap.size ≤ q) s.heap H locs → lv_has ls 18 [(0, .ref b), (1, .ref (aN 0 0)), (3, .int y3), (6, .int y6), (7, .int y7), (8, .int y8), (9, .int y9), (10, .int y10), (11, .int y11)] → W p l e room_1 s m #[Value.ref b] below meth c H locs 600000 7302250 (lw_Z below #[Value.ref b] s) (F0 m 486 ls []) := by
    intro k85 hk85 y3 y6 y7 y8 y9 y10 y11 v1 v2 G v3 H locs ls hc hP hD hS hl
    refine lv_aload_n hx hb dL_law_486 rfl (lv_at hl 1 rfl) ?_
    refine lv_iload hx hb dL_law_487 (lv_at hl 5 rfl) ?_
    obtain ⟨x75, t75, hc75, hc⟩ := b2_some hc
    refine gc_VI (n := 1) (q0 := 0) (ci := 3) (w' := NW cy aN t75.1 t75.2.1 t75.2.2.1 t75.2.2.2) hx hb hml hown hts hK hP hD hS hA hl.1 ⟨Nat.le_refl _, Nat.le_refl _⟩ (C_X3_able l D cy aN v1 v2 G v3 y8 x75 t75.1 t75.2.1 t75.2.2.1 t75.2.2.2 hc75) gL_law_X3_able rfl (by decide +kernel) rfl ⟨by decide, by decide⟩ Jn.same rfl rfl rfl (Nat.le_of_ble_eq_true rfl) dL_law_489 (fun H locs hP hD hS => ?_)
    refine lv_istore (lv' := [(13, .int x75), (0, .ref b), (1, .ref (aN 0 0)), (3, .int y3), (6, .int y6), (7, .int y7), (8, .int y8), (9, .int y9), (10, .int y10), (11, .int y11)]) hx hb dL_law_492 hl (by decide) rfl (fun ls hl => ?_)
    refine lv_aload_n hx hb dL_law_494 rfl (lv_at hl 2 rfl) ?_
    refine lv_iload hx hb dL_law_495 (lv_at hl 6 rfl) ?_
    refine lv_iload hx hb dL_law_497 (lv_at hl 7 rfl) ?_
    obtain ⟨x76, t76, hc76, hc⟩ := b2_some hc
    refine gc_VI (n := 2) (q0 := 0) (ci := 3) (w' := NW cy aN t76.1 t76.2.1 t76.2.2.1 t76.2.2.2) hx hb hml hown hts hK hP hD hS hA hl.1 ⟨Nat.le_refl _, Nat.le_refl _⟩ (C_X3_request l D cy aN t75.1 t75.2.1 t75.2.2.1 t75.2.2.2 y8 y9 x76 t76.1 t76.2.1 t76.2.2.1 t76.2.2.2 hc76) gL_law_X3_request rfl (by decide +kernel) rfl ⟨by decide, by decide⟩ Jn.same rfl rfl rfl (Nat.le_of_ble_eq_true rfl) dL_law_499 (fun H locs hP hD hS => ?_)
    refine lv_istore (lv' := [(12, .int x76), (13, .int x75), (0, .ref b), (1, .ref (aN 0 0)), (3, .int y3), (6, .int y6), (7, .int y7), (8, .int y8), (9, .int y9), (10, .int y10), (11, .int y11)]) hx hb dL_law_502 hl (by decide) rfl (fun ls hl => ?_)
    refine lv_iload hx hb dL_law_504 (lv_at hl 9 rfl) ?_
    refine lv_if_ne (tgt := 543) hx hb dL_law_506 (by decide) (fun c77 => ?_) (fun c77 => ?_)
    · replace hc := ite_f c77 hc
      exact J543 k85 hk85 y3 y6 y7 y9 y10 x76 t76.1 t76.2.1 t76.2.2.1 t76.2.2.2 H locs ls hc hP hD hS (lv_sub hl [2, 3, 4, 5, 6, 8, 9, 0] rfl)
    · replace hc := ite_t c77 hc
      refine lv_iload hx hb dL_law_509 (lv_at hl 1 rfl) ?_
      refine lv_iload hx hb dL_law_511 (lv_at hl 8 rfl) ?_
      refine lv_icmp_lt (tgt := 543) hx hb dL_law_513 (by decide) (fun c86 => ?_) (fun c86 => ?_)
      · replace hc := ite_t c86 hc
        exact J543 k85 hk85 y3 y6 y7 y9 y10 x76 t76.1 t76.2.1 t76.2.2.1 t76.2.2.2 H locs ls hc hP hD hS (lv_sub hl [2, 3, 4, 5, 6, 8, 9, 0] rfl)
      · replace hc := ite_f c86 hc
        refine lv_iload hx hb dL_law_516 (lv_at hl 0 rfl) ?_
        refine lv_if_ne (tgt := 539) hx hb dL_law_518 (by decide) (fun c87 => ?_) (fun c87 => ?_)
        · replace hc := ite_f c87 hc
          cases hc
        · replace hc := ite_t c87 hc
          refine lv_aload_n hx hb dL_law_521 rfl (lv_at hl 3 rfl) ?_
          refine lv_bipush (v := 6) hx hb dL_law_522 (by decide +kernel) ?_
          obtain ⟨x88, hc88, hc⟩ := b1_some hc
          refine gc_VI (n := 1) (q0 := 0) (ci := 3) (w' := NW cy aN t76.1 t76.2.1 t76.2.2.1 t76.2.2.2) hx hb hml hown hts hK hP hD hS hA hl.1 ⟨Nat.le_refl _, Nat.le_refl _⟩ (C_X3_count l D cy aN t76.1 t76.2.1 t76.2.2.1 t76.2.2.2 6 x88 hc88) gL_law_X3_count rfl (by decide +kernel) rfl ⟨by decide, by decide⟩ Jn.same rfl rfl rfl (Nat.le_of_ble_eq_true rfl) dL_law_524 (fun H locs hP hD hS => ?_)
          refine lv_iload hx hb dL_law_527 (lv_at hl 10 rfl) ?_
          refine lv_iload hx hb dL_law_529 (lv_at hl 8 rfl) ?_
          refine lv_iadd hx hb dL_law_531 ?_
          refine lv_icmp_ne (tgt := 539) hx hb dL_law_532 (by decide) (fun c89 => ?_) (fun c89 => ?_)
          · replace hc := ite_f c89 hc
            cases hc
          · replace hc := ite_t c89 hc
            refine lv_iconst (v := 1) hx hb dL_law_535 (by decide) ?_
            refine lv_goto (tgt := 606) hx hb dL_law_536 (by decide) ?_
            refine lv_istore_n (lv' := [(2, .int 1), (12, .int x76), (13, .int x75), (0, .ref b), (1, .ref (aN 0 0)), (3, .int y3), (6, .int y6), (7, .int y7), (8, .int y8), (9, .int y9), (10, .int y10), (11, .int y11)]) hx hb dL_law_606 rfl hl (by decide) rfl (fun ls hl => ?_)
            refine lv_goto (tgt := 1143) hx hb dL_law_607 (by decide) ?_
            exact J1143 k85 hk85 y3 y6 y7 y9 x76 t76.1 t76.2.1 t76.2.2.1 t76.2.2.2 H locs ls hc hP hD hS (lv_sub hl [3, 4, 0, 5, 6, 7, 9, 1] rfl)
  have J610 : ∀ (k85 : Int32 → FV → FV → (Nat → FV) → FV → Option (Int32 × (FV × FV × (Nat → FV) × FV))) (hk85 : ∀ (y3 : Int32) (v1 : FV) (v2 : FV) (G : (Nat → FV)) (v3 : FV) (H : Heap) (locs : List Loc) (ls : Array Slot), k85 y3 v1 v2 G v3 = some (r, (v1', v2', G', v3')) → va_P D vwCl (NW cy aN v1 v2 G v3) H → va_D (fun q : Nat => s.heap.size ≤ q) (NW cy aN v1 v2 G v3) → va_S (fun q : Nat => s.heap.size ≤ q) s.heap H locs → lv_has ls 18 [(0, .ref b), (1, .ref (aN 0 0)), (2, .int 1), (3, .int y3)] → W p l e room_1 s m #[Value.ref b] below meth c H locs 600000 7302250 (lw_Z below #[Value.ref b] s) (F0 m 85 ls [])), ∀ (y3 : Int32) (y6 : Int32) (y7 : Int32) (y9 : Int32) (y10 : Int32) (v1 : FV) (v2 : FV) (G : (Nat → FV)) (v3 : FV) (H : Heap) (locs : List Loc) (ls : Array Slot), f_L_law_J610 L xs k85 y3 y6 y7 y9 y10 v1 v2 G v3 = some (r, (v1', v2', G', v3')) → va_P D vwCl (NW cy aN v1 v2 G v3) H → va_D (fun q : Nat => s.heap.size ≤ q) (NW cy aN v1 v2 G v3) → va_S (fun q : Nat => s.heap.size ≤ q) s.heap H locs → lv_has ls 18 [(0, .ref b), (1, .ref (aN 0 0)), (3, .int y3), (6, .int y6), (7, .int y7), (9, .int y9), (10, .int y10)] → W p l e room_1 s m #[Value.ref b] below meth c H locs 600000 7302250 (lw_Z below #[Value.ref b] s) (F0 m 610 ls []) := by
    intro k85 hk85 y3 y6 y7 y9 y10 v1 v2 G v3 H locs ls hc hP hD hS hl
    refine lv_aload_n hx hb dL_law_610 rfl (lv_at hl 1 rfl) ?_
    refine lv_iconst (v := 1) hx hb dL_law_611 (by decide) ?_
    refine lv_iload hx hb dL_law_612 (lv_at hl 3 rfl) ?_
    refine lv_iconst (v := 3) hx hb dL_law_614 (by decide) ?_
    refine lv_irem hx hb dL_law_615 (by decide) ?_
    refine lv_iadd hx hb dL_law_616 ?_
    obtain ⟨x93, t93, hc93, hc⟩ := b2_some hc
    refine gc_VI (n := 1) (q0 := 0) (ci := 3) (w' := NW cy aN t93.1 t93.2.1 t93.2.2.1 t93.2.2.2) hx hb hml hown hts hK hP hD hS hA hl.1 ⟨Nat.le_refl _, Nat.le_refl _⟩ (C_X3_cancel l D cy aN v1 v2 G v3 (1 + (y6 - y6 / 3 * 3)) x93 t93.1 t93.2.1 t93.2.2.1 t93.2.2.2 hc93) gL_law_X3_cancel rfl (by decide +kernel) rfl ⟨by decide, by decide⟩ Jn.same rfl rfl rfl (Nat.le_of_ble_eq_true rfl) dL_law_617 (fun H locs hP hD hS => ?_)
    refine lv_istore (lv' := [(12, .int x93), (0, .ref b), (1, .ref (aN 0 0)), (3, .int y3), (6, .int y6), (7, .int y7), (9, .int y9), (10, .int y10)]) hx hb dL_law_620 hl (by decide) rfl (fun ls hl => ?_)
    refine lv_iload hx hb dL_law_622 (lv_at hl 4 rfl) ?_
    refine lv_iconst (v := 3) hx hb dL_law_624 (by decide) ?_
    refine lv_irem hx hb dL_law_625 (by decide) ?_
    refine lv_iload hx hb dL_law_626 (lv_at hl 7 rfl) ?_
    refine lv_icmp_lt (tgt := 645) hx hb dL_law_628 (by decide) (fun c94 => ?_) (fun c94 => ?_)
    · replace hc := ite_t c94 hc
      refine lv_iload hx hb dL_law_645 (lv_at hl 0 rfl) ?_
      refine lv_if_le (tgt := 667) hx hb dL_law_647 (by decide) (fun c95 => ?_) (fun c95 => ?_)
      · replace hc := ite_t c95 hc
        cases hc
      · replace hc := ite_f c95 hc
        refine lv_aload_n hx hb dL_law_650 rfl (lv_at hl 2 rfl) ?_
        refine lv_bipush (v := 10) hx hb dL_law_651 (by decide +kernel) ?_
        obtain ⟨x96, hc96, hc⟩ := b1_some hc
        refine gc_VI (n := 1) (q0 := 0) (ci := 3) (w' := NW cy aN t93.1 t93.2.1 t93.2.2.1 t93.2.2.2) hx hb hml hown hts hK hP hD hS hA hl.1 ⟨Nat.le_refl _, Nat.le_refl _⟩ (C_X3_count l D cy aN t93.1 t93.2.1 t93.2.2.1 t93.2.2.2 10 x96 hc96) gL_law_X3_count rfl (by decide +kernel) rfl ⟨by decide, by decide⟩ Jn.same rfl rfl rfl (Nat.le_of_ble_eq_true rfl) dL_law_653 (fun H locs hP hD hS => ?_)
        refine lv_iload hx hb dL_law_656 (lv_at hl 7 rfl) ?_
        refine lv_iconst (v := 1) hx hb dL_law_658 (by decide) ?_
        refine lv_isub hx hb dL_law_659 ?_
        refine lv_icmp_ne (tgt := 667) hx hb dL_law_660 (by decide) (fun c97 => ?_) (fun c97 => ?_)
        · replace hc := ite_f c97 hc
          cases hc
        · replace hc := ite_t c97 hc
          refine lv_iconst (v := 1) hx hb dL_law_663 (by decide) ?_
          refine lv_goto (tgt := 668) hx hb dL_law_664 (by decide) ?_
          refine lv_istore_n (lv' := [(2, .int 1), (12, .int x93), (0, .ref b), (1, .ref (aN 0 0)), (3, .int y3), (6, .int y6), (7, .int y7), (9, .int y9), (10, .int y10)]) hx hb dL_law_668 rfl hl (by decide) rfl (fun ls hl => ?_)
          refine lv_goto (tgt := 1143) hx hb dL_law_669 (by decide) ?_
          exact J1143 k85 hk85 y3 y6 y7 y9 x93 t93.1 t93.2.1 t93.2.2.1 t93.2.2.2 H locs ls hc hP hD hS (lv_sub hl [2, 3, 0, 4, 5, 6, 7, 1] rfl)
    · replace hc := ite_f c94 hc
      refine lv_iload hx hb dL_law_631 (lv_at hl 0 rfl) ?_
      refine lv_iconst (v := (-1)) hx hb dL_law_633 (by decide) ?_
      refine lv_icmp_ne (tgt := 641) hx hb dL_law_634 (by decide) (fun c98 => ?_) (fun c98 => ?_)
      · replace hc := ite_f c98 hc
        cases hc
      · replace hc := ite_t c98 hc
        refine lv_iconst (v := 1) hx hb dL_law_637 (by decide) ?_
        refine lv_goto (tgt := 668) hx hb dL_law_638 (by decide) ?_
        refine lv_istore_n (lv' := [(2, .int 1), (12, .int x93), (0, .ref b), (1, .ref (aN 0 0)), (3, .int y3), (6, .int y6), (7, .int y7), (9, .int y9), (10, .int y10)]) hx hb dL_law_668 rfl hl (by decide) rfl (fun ls hl => ?_)
        refine lv_goto (tgt := 1143) hx hb dL_law_669 (by decide) ?_
        exact J1143 k85 hk85 y3 y6 y7 y9 x93 t93.1 t93.2.1 t93.2.2.1 t93.2.2.2 H locs ls hc hP hD hS (lv_sub hl [2, 3, 0, 4, 5, 6, 7, 1] rfl)
  have J672 : ∀ (k85 : Int32 → FV → FV → (Nat → FV) → FV → Option (Int32 × (FV × FV × (Nat → FV) × FV))) (hk85 : ∀ (y3 : Int32) (v1 : FV) (v2 : FV) (G : (Nat → FV)) (v3 : FV) (H : Heap) (locs : List Loc) (ls : Array Slot), k85 y3 v1 v2 G v3 = some (r, (v1', v2', G', v3')) → va_P D vwCl (NW cy aN v1 v2 G v3) H → va_D (fun q : Nat => s.heap.size ≤ q) (NW cy aN v1 v2 G v3) → va_S (fun q : Nat => s.heap.size ≤ q) s.heap H locs → lv_has ls 18 [(0, .ref b), (1, .ref (aN 0 0)), (2, .int 1), (3, .int y3)] → W p l e room_1 s m #[Value.ref b] below meth c H locs 600000 7302250 (lw_Z below #[Value.ref b] s) (F0 m 85 ls [])), ∀ (y3 : Int32) (y6 : Int32) (y7 : Int32) (y9 : Int32) (y10 : Int32) (v1 : FV) (v2 : FV) (G : (Nat → FV)) (v3 : FV) (H : Heap) (locs : List Loc) (ls : Array Slot), f_L_law_J672 L xs k85 y3 y6 y7 y9 y10 v1 v2 G v3 = some (r, (v1', v2', G', v3')) → va_P D vwCl (NW cy aN v1 v2 G v3) H → va_D (fun q : Nat => s.heap.size ≤ q) (NW cy aN v1 v2 G v3) → va_S (fun q : Nat => s.heap.size ≤ q) s.heap H locs → lv_has ls 18 [(0, .ref b), (1, .ref (aN 0 0)), (3, .int y3), (6, .int y6), (7, .int y7), (9, .int y9), (10, .int y10)] → W p l e room_1 s m #[Value.ref b] below meth c H locs 600000 7302250 (lw_Z below #[Value.ref b] s) (F0 m 672 ls []) := by
    intro k85 hk85 y3 y6 y7 y9 y10 v1 v2 G v3 H locs ls hc hP hD hS hl
    refine lv_aload_n hx hb dL_law_672 rfl (lv_at hl 1 rfl) ?_
    refine lv_iconst (v := 2) hx hb dL_law_673 (by decide) ?_
    obtain ⟨x100, hc100, hc⟩ := b1_some hc
    refine gc_VI (n := 1) (q0 := 0) (ci := 3) (w' := NW cy aN v1 v2 G v3) hx hb hml hown hts hK hP hD hS hA hl.1 ⟨Nat.le_refl _, Nat.le_refl _⟩ (C_X3_count l D cy aN v1 v2 G v3 2 x100 hc100) gL_law_X3_count rfl (by decide +kernel) rfl ⟨by decide, by decide⟩ Jn.same rfl rfl rfl (Nat.le_of_ble_eq_true rfl) dL_law_674 (fun H locs hP hD hS => ?_)
    refine lv_istore (lv' := [(13, .int x100), (0, .ref b), (1, .ref (aN 0 0)), (3, .int y3), (6, .int y6), (7, .int y7), (9, .int y9), (10, .int y10)]) hx hb dL_law_677 hl (by decide) rfl (fun ls hl => ?_)
    refine lv_aload_n hx hb dL_law_679 rfl (lv_at hl 2 rfl) ?_
    refine lv_bipush (v := 11) hx hb dL_law_680 (by decide +kernel) ?_
    obtain ⟨x101, hc101, hc⟩ := b1_some hc
    refine gc_VI (n := 1) (q0 := 0) (ci := 3) (w' := NW cy aN v1 v2 G v3) hx hb hml hown hts hK hP hD hS hA hl.1 ⟨Nat.le_refl _, Nat.le_refl _⟩ (C_X3_count l D cy aN v1 v2 G v3 11 x101 hc101) gL_law_X3_count rfl (by decide +kernel) rfl ⟨by decide, by decide⟩ Jn.same rfl rfl rfl (Nat.le_of_ble_eq_true rfl) dL_law_682 (fun H locs hP hD hS => ?_)
    refine lv_istore (lv' := [(14, .int x101), (13, .int x100), (0, .ref b), (1, .ref (aN 0 0)), (3, .int y3), (6, .int y6), (7, .int y7), (9, .int y9), (10, .int y10)]) hx hb dL_law_685 hl (by decide) rfl (fun ls hl => ?_)
    refine lv_aload_n hx hb dL_law_687 rfl (lv_at hl 3 rfl) ?_
    refine lv_iconst (v := 1) hx hb dL_law_688 (by decide) ?_
    refine lv_iload hx hb dL_law_689 (lv_at hl 5 rfl) ?_
    refine lv_bipush (v := 40) hx hb dL_law_691 (by decide +kernel) ?_
    refine lv_irem hx hb dL_law_693 (by decide) ?_
    refine lv_iadd hx hb dL_law_694 ?_
    obtain ⟨x102, t102, hc102, hc⟩ := b2_some hc
    refine gc_VI (n := 1) (q0 := 0) (ci := 3) (w' := NW cy aN t102.1 t102.2.1 t102.2.2.1 t102.2.2.2) hx hb hml hown hts hK hP hD hS hA hl.1 ⟨Nat.le_refl _, Nat.le_refl _⟩ (C_X3_tick l D cy aN v1 v2 G v3 (1 + (y6 - y6 / 40 * 40)) x102 t102.1 t102.2.1 t102.2.2.1 t102.2.2.2 hc102) gL_law_X3_tick rfl (by decide +kernel) rfl ⟨by decide, by decide⟩ Jn.same rfl rfl rfl (Nat.le_of_ble_eq_true rfl) dL_law_695 (fun H locs hP hD hS => ?_)
    refine lv_istore (lv' := [(12, .int x102), (14, .int x101), (13, .int x100), (0, .ref b), (1, .ref (aN 0 0)), (3, .int y3), (6, .int y6), (7, .int y7), (9, .int y9), (10, .int y10)]) hx hb dL_law_698 hl (by decide) rfl (fun ls hl => ?_)
    refine lv_iload hx hb dL_law_700 (lv_at hl 0 rfl) ?_
    refine lv_aload_n hx hb dL_law_702 rfl (lv_at hl 4 rfl) ?_
    refine lv_bipush (v := 11) hx hb dL_law_703 (by decide +kernel) ?_
    obtain ⟨x103, hc103, hc⟩ := b1_some hc
    refine gc_VI (n := 1) (q0 := 0) (ci := 3) (w' := NW cy aN t102.1 t102.2.1 t102.2.2.1 t102.2.2.2) hx hb hml hown hts hK hP hD hS hA hl.1 ⟨Nat.le_refl _, Nat.le_refl _⟩ (C_X3_count l D cy aN t102.1 t102.2.1 t102.2.2.1 t102.2.2.2 11 x103 hc103) gL_law_X3_count rfl (by decide +kernel) rfl ⟨by decide, by decide⟩ Jn.same rfl rfl rfl (Nat.le_of_ble_eq_true rfl) dL_law_705 (fun H locs hP hD hS => ?_)
    refine lv_iload hx hb dL_law_708 (lv_at hl 1 rfl) ?_
    refine lv_isub hx hb dL_law_710 ?_
    refine lv_icmp_ne (tgt := 778) hx hb dL_law_711 (by decide) (fun c104 => ?_) (fun c104 => ?_)
    · replace hc := ite_f c104 hc
      cases hc
    · replace hc := ite_t c104 hc
      refine lv_aload_n hx hb dL_law_714 rfl (lv_at hl 4 rfl) ?_
      refine lv_iconst (v := 2) hx hb dL_law_715 (by decide) ?_
      obtain ⟨x105, hc105, hc⟩ := b1_some hc
      refine gc_VI (n := 1) (q0 := 0) (ci := 3) (w' := NW cy aN t102.1 t102.2.1 t102.2.2.1 t102.2.2.2) hx hb hml hown hts hK hP hD hS hA hl.1 ⟨Nat.le_refl _, Nat.le_refl _⟩ (C_X3_count l D cy aN t102.1 t102.2.1 t102.2.2.1 t102.2.2.2 2 x105 hc105) gL_law_X3_count rfl (by decide +kernel) rfl ⟨by decide, by decide⟩ Jn.same rfl rfl rfl (Nat.le_of_ble_eq_true rfl) dL_law_716 (fun H locs hP hD hS => ?_)
      refine lv_iload hx hb dL_law_719 (lv_at hl 2 rfl) ?_
      refine lv_iconst (v := 1) hx hb dL_law_721 (by decide) ?_
      refine lv_iadd hx hb dL_law_722 ?_
      refine lv_iload hx hb dL_law_723 (lv_at hl 6 rfl) ?_
      refine lv_bipush (v := 40) hx hb dL_law_725 (by decide +kernel) ?_
      refine lv_irem hx hb dL_law_727 (by decide) ?_
      refine lv_iadd hx hb dL_law_728 ?_
      refine lv_icmp_ne (tgt := 778) hx hb dL_law_729 (by decide) (fun c106 => ?_) (fun c106 => ?_)
      · replace hc := ite_f c106 hc
        cases hc
      · replace hc := ite_t c106 hc
        refine lv_aload_n hx hb dL_law_732 rfl (lv_at hl 4 rfl) ?_
        refine lv_bipush (v := 10) hx hb dL_law_733 (by decide +kernel) ?_
        obtain ⟨x107, hc107, hc⟩ := b1_some hc
        refine gc_VI (n := 1) (q0 := 0) (ci := 3) (w' := NW cy aN t102.1 t102.2.1 t102.2.2.1 t102.2.2.2) hx hb hml hown hts hK hP hD hS hA hl.1 ⟨Nat.le_refl _, Nat.le_refl _⟩ (C_X3_count l D cy aN t102.1 t102.2.1 t102.2.2.1 t102.2.2.2 10 x107 hc107) gL_law_X3_count rfl (by decide +kernel) rfl ⟨by decide, by decide⟩ Jn.same rfl rfl rfl (Nat.le_of_ble_eq_true rfl) dL_law_735 (fun H locs hP hD hS => ?_)
        refine lv_iload hx hb dL_law_738 (lv_at hl 9 rfl) ?_
        refine lv_iload hx hb dL_law_740 (lv_at hl 0 rfl) ?_
        refine lv_isub hx hb dL_law_742 ?_
        refine lv_icmp_ne (tgt := 778) hx hb dL_law_743 (by decide) (fun c108 => ?_) (fun c108 => ?_)
        · replace hc := ite_f c108 hc
          cases hc
        · replace hc := ite_t c108 hc
          refine lv_aload_n hx hb dL_law_746 rfl (lv_at hl 4 rfl) ?_
          refine lv_bipush (v := 10) hx hb dL_law_747 (by decide +kernel) ?_
          obtain ⟨x109, hc109, hc⟩ := b1_some hc
          refine gc_VI (n := 1) (q0 := 0) (ci := 3) (w' := NW cy aN t102.1 t102.2.1 t102.2.2.1 t102.2.2.2) hx hb hml hown hts hK hP hD hS hA hl.1 ⟨Nat.le_refl _, Nat.le_refl _⟩ (C_X3_count l D cy aN t102.1 t102.2.1 t102.2.2.1 t102.2.2.2 10 x109 hc109) gL_law_X3_count rfl (by decide +kernel) rfl ⟨by decide, by decide⟩ Jn.same rfl rfl rfl (Nat.le_of_ble_eq_true rfl) dL_law_749 (fun H locs hP hD hS => ?_)
          refine lv_if_eq (tgt := 774) hx hb dL_law_752 (by decide) (fun c110 => ?_) (fun c110 => ?_)
          · replace hc := ite_t c110 hc
            refine lv_iconst (v := 1) hx hb dL_law_774 (by decide) ?_
            refine lv_goto (tgt := 779) hx hb dL_law_775 (by decide) ?_
            refine lv_istore_n (lv' := [(2, .int 1), (12, .int x102), (14, .int x101), (13, .int x100), (0, .ref b), (1, .ref (aN 0 0)), (3, .int y3), (6, .int y6), (7, .int y7), (9, .int y9), (10, .int y10)]) hx hb dL_law_779 rfl hl (by decide) rfl (fun ls hl => ?_)
            refine lv_goto (tgt := 1143) hx hb dL_law_780 (by decide) ?_
            exact J1143 k85 hk85 y3 y6 y7 y9 x102 t102.1 t102.2.1 t102.2.2.1 t102.2.2.2 H locs ls hc hP hD hS (lv_sub hl [4, 5, 0, 6, 7, 8, 9, 1] rfl)
          · replace hc := ite_f c110 hc
            refine lv_aload_n hx hb dL_law_755 rfl (lv_at hl 4 rfl) ?_
            refine lv_aload_n hx hb dL_law_756 rfl (lv_at hl 4 rfl) ?_
            refine lv_iconst (v := 1) hx hb dL_law_757 (by decide) ?_
            refine lv_iconst (v := 0) hx hb dL_law_758 (by decide) ?_
            obtain ⟨x111, hc111, hc⟩ := b1_some hc
            refine gc_VI (n := 2) (q0 := 0) (ci := 3) (w' := NW cy aN t102.1 t102.2.1 t102.2.2.1 t102.2.2.2) hx hb hml hown hts hK hP hD hS hA hl.1 ⟨Nat.le_refl _, Nat.le_refl _⟩ (C_X3_requestAt l D cy aN t102.1 t102.2.1 t102.2.2.1 t102.2.2.2 1 0 x111 hc111) gL_law_X3_requestAt rfl (by decide +kernel) rfl ⟨by decide, by decide⟩ Jn.same rfl rfl rfl (Nat.le_of_ble_eq_true rfl) dL_law_759 (fun H locs hP hD hS => ?_)
            obtain ⟨x112, t112, hc112, hc⟩ := b2_some hc
            refine gc_VI (n := 1) (q0 := 0) (ci := 3) (w' := NW cy aN t112.1 t112.2.1 t112.2.2.1 t112.2.2.2) hx hb hml hown hts hK hP hD hS hA hl.1 ⟨Nat.le_refl _, Nat.le_refl _⟩ (C_X3_able l D cy aN t102.1 t102.2.1 t102.2.2.1 t102.2.2.2 x111 x112 t112.1 t112.2.1 t112.2.2.1 t112.2.2.2 hc112) gL_law_X3_able rfl (by decide +kernel) rfl ⟨by decide, by decide⟩ Jn.same rfl rfl rfl (Nat.le_of_ble_eq_true rfl) dL_law_762 (fun H locs hP hD hS => ?_)
            refine lv_aload_n hx hb dL_law_765 rfl (lv_at hl 4 rfl) ?_
            refine lv_iconst (v := 1) hx hb dL_law_766 (by decide) ?_
            refine lv_iconst (v := 1) hx hb dL_law_767 (by decide) ?_
            obtain ⟨x113, hc113, hc⟩ := b1_some hc
            refine gc_VI (n := 2) (q0 := 0) (ci := 3) (w' := NW cy aN t112.1 t112.2.1 t112.2.2.1 t112.2.2.2) hx hb hml hown hts hK hP hD hS hA hl.1 ⟨Nat.le_refl _, Nat.le_refl _⟩ (C_X3_requestAt l D cy aN t112.1 t112.2.1 t112.2.2.1 t112.2.2.2 1 1 x113 hc113) gL_law_X3_requestAt rfl (by decide +kernel) rfl ⟨by decide, by decide⟩ Jn.same rfl rfl rfl (Nat.le_of_ble_eq_true rfl) dL_law_768 (fun H locs hP hD hS => ?_)
            refine lv_icmp_ge (tgt := 778) hx hb dL_law_771 (by decide) (fun c114 => ?_) (fun c114 => ?_)
            · replace hc := ite_t c114 hc
              cases hc
            · replace hc := ite_f c114 hc
              refine lv_iconst (v := 1) hx hb dL_law_774 (by decide) ?_
              refine lv_goto (tgt := 779) hx hb dL_law_775 (by decide) ?_
              refine lv_istore_n (lv' := [(2, .int 1), (12, .int x102), (14, .int x101), (13, .int x100), (0, .ref b), (1, .ref (aN 0 0)), (3, .int y3), (6, .int y6), (7, .int y7), (9, .int y9), (10, .int y10)]) hx hb dL_law_779 rfl hl (by decide) rfl (fun ls hl => ?_)
              refine lv_goto (tgt := 1143) hx hb dL_law_780 (by decide) ?_
              exact J1143 k85 hk85 y3 y6 y7 y9 x102 t112.1 t112.2.1 t112.2.2.1 t112.2.2.2 H locs ls hc hP hD hS (lv_sub hl [4, 5, 0, 6, 7, 8, 9, 1] rfl)
  have J783 : ∀ (k85 : Int32 → FV → FV → (Nat → FV) → FV → Option (Int32 × (FV × FV × (Nat → FV) × FV))) (hk85 : ∀ (y3 : Int32) (v1 : FV) (v2 : FV) (G : (Nat → FV)) (v3 : FV) (H : Heap) (locs : List Loc) (ls : Array Slot), k85 y3 v1 v2 G v3 = some (r, (v1', v2', G', v3')) → va_P D vwCl (NW cy aN v1 v2 G v3) H → va_D (fun q : Nat => s.heap.size ≤ q) (NW cy aN v1 v2 G v3) → va_S (fun q : Nat => s.heap.size ≤ q) s.heap H locs → lv_has ls 18 [(0, .ref b), (1, .ref (aN 0 0)), (2, .int 1), (3, .int y3)] → W p l e room_1 s m #[Value.ref b] below meth c H locs 600000 7302250 (lw_Z below #[Value.ref b] s) (F0 m 85 ls [])), ∀ (y3 : Int32) (y6 : Int32) (y7 : Int32) (y9 : Int32) (v1 : FV) (v2 : FV) (G : (Nat → FV)) (v3 : FV) (H : Heap) (locs : List Loc) (ls : Array Slot), f_L_law_J783 L xs k85 y3 y6 y7 y9 v1 v2 G v3 = some (r, (v1', v2', G', v3')) → va_P D vwCl (NW cy aN v1 v2 G v3) H → va_D (fun q : Nat => s.heap.size ≤ q) (NW cy aN v1 v2 G v3) → va_S (fun q : Nat => s.heap.size ≤ q) s.heap H locs → lv_has ls 18 [(0, .ref b), (1, .ref (aN 0 0)), (2, .int 1), (3, .int y3), (6, .int y6), (7, .int y7), (9, .int y9)] → W p l e room_1 s m #[Value.ref b] below meth c H locs 600000 7302250 (lw_Z below #[Value.ref b] s) (F0 m 783 ls []) := by
    intro k85 hk85 y3 y6 y7 y9 v1 v2 G v3 H locs ls hc hP hD hS hl
    refine lv_aload_n hx hb dL_law_783 rfl (lv_at hl 1 rfl) ?_
    refine lv_iload hx hb dL_law_784 (lv_at hl 4 rfl) ?_
    refine lv_iconst (v := 2) hx hb dL_law_786 (by decide) ?_
    refine lv_irem hx hb dL_law_787 (by decide) ?_
    refine lv_iload hx hb dL_law_788 (lv_at hl 4 rfl) ?_
    refine lv_iconst (v := 2) hx hb dL_law_790 (by decide) ?_
    refine lv_irem hx hb dL_law_791 (by decide) ?_
    refine lv_if_ne (tgt := 805) hx hb dL_law_792 (by decide) (fun c120 => ?_) (fun c120 => ?_)
    · replace hc := ite_f c120 hc
      refine lv_iload hx hb dL_law_805 (lv_at hl 5 rfl) ?_
      refine lv_iconst (v := 2) hx hb dL_law_807 (by decide) ?_
      refine lv_irem hx hb dL_law_808 (by decide) ?_
      obtain ⟨x121, t121, hc121, hc⟩ := b2_some hc
      refine gc_VI (n := 2) (q0 := 0) (ci := 3) (w' := NW cy aN t121.1 t121.2.1 t121.2.2.1 t121.2.2.2) hx hb hml hown hts hK hP hD hS hA hl.1 ⟨Nat.le_refl _, Nat.le_refl _⟩ (C_X3_set l D cy aN v1 v2 G v3 (y6 - y6 / 2 * 2) (y7 - y7 / 2 * 2) x121 t121.1 t121.2.1 t121.2.2.1 t121.2.2.2 hc121) gL_law_X3_set rfl (by decide +kernel) rfl ⟨by decide, by decide⟩ Jn.same rfl rfl rfl (Nat.le_of_ble_eq_true rfl) dL_law_809 (fun H locs hP hD hS => ?_)
      refine lv_istore (lv' := [(12, .int x121), (0, .ref b), (1, .ref (aN 0 0)), (2, .int 1), (3, .int y3), (6, .int y6), (7, .int y7), (9, .int y9)]) hx hb dL_law_812 hl (by decide) rfl (fun ls hl => ?_)
      refine lv_goto (tgt := 1143) hx hb dL_law_814 (by decide) ?_
      exact J1143 k85 hk85 y3 y6 y7 y9 x121 t121.1 t121.2.1 t121.2.2.1 t121.2.2.2 H locs ls hc hP hD hS (lv_sub hl [1, 2, 3, 4, 5, 6, 7, 0] rfl)
    · replace hc := ite_t c120 hc
      refine lv_iconst (v := 4) hx hb dL_law_795 (by decide) ?_
      refine lv_iload hx hb dL_law_796 (lv_at hl 5 rfl) ?_
      refine lv_bipush (v := 60) hx hb dL_law_798 (by decide +kernel) ?_
      refine lv_irem hx hb dL_law_800 (by decide) ?_
      refine lv_iadd hx hb dL_law_801 ?_
      refine lv_goto (tgt := 809) hx hb dL_law_802 (by decide) ?_
      obtain ⟨x122, t122, hc122, hc⟩ := b2_some hc
      refine gc_VI (n := 2) (q0 := 0) (ci := 3) (w' := NW cy aN t122.1 t122.2.1 t122.2.2.1 t122.2.2.2) hx hb hml hown hts hK hP hD hS hA hl.1 ⟨Nat.le_refl _, Nat.le_refl _⟩ (C_X3_set l D cy aN v1 v2 G v3 (y6 - y6 / 2 * 2) (4 + (y7 - y7 / 60 * 60)) x122 t122.1 t122.2.1 t122.2.2.1 t122.2.2.2 hc122) gL_law_X3_set rfl (by decide +kernel) rfl ⟨by decide, by decide⟩ Jn.same rfl rfl rfl (Nat.le_of_ble_eq_true rfl) dL_law_809 (fun H locs hP hD hS => ?_)
      refine lv_istore (lv' := [(12, .int x122), (0, .ref b), (1, .ref (aN 0 0)), (2, .int 1), (3, .int y3), (6, .int y6), (7, .int y7), (9, .int y9)]) hx hb dL_law_812 hl (by decide) rfl (fun ls hl => ?_)
      refine lv_goto (tgt := 1143) hx hb dL_law_814 (by decide) ?_
      exact J1143 k85 hk85 y3 y6 y7 y9 x122 t122.1 t122.2.1 t122.2.2.1 t122.2.2.2 H locs ls hc hP hD hS (lv_sub hl [1, 2, 3, 4, 5, 6, 7, 0] rfl)
  have J1063 : ∀ (k85 : Int32 → FV → FV → (Nat → FV) → FV → Option (Int32 × (FV × FV × (Nat → FV) × FV))) (hk85 : ∀ (y3 : Int32) (v1 : FV) (v2 : FV) (G : (Nat → FV)) (v3 : FV) (H : Heap) (locs : List Loc) (ls : Array Slot), k85 y3 v1 v2 G v3 = some (r, (v1', v2', G', v3')) → va_P D vwCl (NW cy aN v1 v2 G v3) H → va_D (fun q : Nat => s.heap.size ≤ q) (NW cy aN v1 v2 G v3) → va_S (fun q : Nat => s.heap.size ≤ q) s.heap H locs → lv_has ls 18 [(0, .ref b), (1, .ref (aN 0 0)), (2, .int 1), (3, .int y3)] → W p l e room_1 s m #[Value.ref b] below meth c H locs 600000 7302250 (lw_Z below #[Value.ref b] s) (F0 m 85 ls [])), ∀ (y3 : Int32) (y6 : Int32) (y7 : Int32) (y9 : Int32) (y12 : Int32) (y13 : Int32) (z0 : Int32) (z1 : Int32) (v1 : FV) (v2 : FV) (G : (Nat → FV)) (v3 : FV) (H : Heap) (locs : List Loc) (ls : Array Slot), f_L_law_J1063 L xs k85 y3 y6 y7 y9 y12 y13 z0 z1 v1 v2 G v3 = some (r, (v1', v2', G', v3')) → va_P D vwCl (NW cy aN v1 v2 G v3) H → va_D (fun q : Nat => s.heap.size ≤ q) (NW cy aN v1 v2 G v3) → va_S (fun q : Nat => s.heap.size ≤ q) s.heap H locs → lv_has ls 18 [(0, .ref b), (1, .ref (aN 0 0)), (3, .int y3), (6, .int y6), (7, .int y7), (9, .int y9), (12, .int y12), (13, .int y13)] → W p l e room_1 s m #[Value.ref b] below meth c H locs 600000 7302250 (lw_Z below #[Value.ref b] s) (F0 m 1063 ls [.int z0, .int z1]) := by
    intro k85 hk85 y3 y6 y7 y9 y12 y13 z0 z1 v1 v2 G v3 H locs ls hc hP hD hS hl
    refine lv_icmp_ne (tgt := 1096) hx hb dL_law_1063 (by decide) (fun c153 => ?_) (fun c153 => ?_)
    · replace hc := ite_f c153 hc
      cases hc
    · replace hc := ite_t c153 hc
      refine lv_iload hx hb dL_law_1066 (lv_at hl 7 rfl) ?_
      refine lv_if_eq (tgt := 1092) hx hb dL_law_1068 (by decide) (fun c154 => ?_) (fun c154 => ?_)
      · replace hc := ite_t c154 hc
        refine lv_iconst (v := 1) hx hb dL_law_1092 (by decide) ?_
        refine lv_goto (tgt := 1097) hx hb dL_law_1093 (by decide) ?_
        refine lv_istore_n (lv' := [(2, .int 1), (0, .ref b), (1, .ref (aN 0 0)), (3, .int y3), (6, .int y6), (7, .int y7), (9, .int y9), (12, .int y12), (13, .int y13)]) hx hb dL_law_1097 rfl hl (by decide) rfl (fun ls hl => ?_)
        refine lv_goto (tgt := 1143) hx hb dL_law_1098 (by decide) ?_
        exact J1143 k85 hk85 y3 y6 y7 y9 y12 v1 v2 G v3 H locs ls hc hP hD hS (lv_sub hl [1, 2, 0, 3, 4, 5, 6, 7] rfl)
      · replace hc := ite_f c154 hc
        refine lv_aload_n hx hb dL_law_1071 rfl (lv_at hl 1 rfl) ?_
        refine lv_bipush (v := 9) hx hb dL_law_1072 (by decide +kernel) ?_
        obtain ⟨x155, t155, hc155, hc⟩ := b2_some hc
        refine gc_VI (n := 1) (q0 := 0) (ci := 3) (w' := NW cy aN t155.1 t155.2.1 t155.2.2.1 t155.2.2.2) hx hb hml hown hts hK hP hD hS hA hl.1 ⟨Nat.le_refl _, Nat.le_refl _⟩ (C_X3_tick l D cy aN v1 v2 G v3 9 x155 t155.1 t155.2.1 t155.2.2.1 t155.2.2.2 hc155) gL_law_X3_tick rfl (by decide +kernel) rfl ⟨by decide, by decide⟩ Jn.same rfl rfl rfl (Nat.le_of_ble_eq_true rfl) dL_law_1074 (fun H locs hP hD hS => ?_)
        refine lv_if_lt (tgt := 1096) hx hb dL_law_1077 (by decide) (fun c156 => ?_) (fun c156 => ?_)
        · replace hc := ite_t c156 hc
          cases hc
        · replace hc := ite_f c156 hc
          refine lv_aload_n hx hb dL_law_1080 rfl (lv_at hl 1 rfl) ?_
          refine lv_iconst (v := 0) hx hb dL_law_1081 (by decide) ?_
          refine lv_iload hx hb dL_law_1082 (lv_at hl 7 rfl) ?_
          obtain ⟨x157, t157, hc157, hc⟩ := b2_some hc
          refine gc_VI (n := 2) (q0 := 0) (ci := 3) (w' := NW cy aN t157.1 t157.2.1 t157.2.2.1 t157.2.2.2) hx hb hml hown hts hK hP hD hS hA hl.1 ⟨Nat.le_refl _, Nat.le_refl _⟩ (C_X3_draw l D cy aN t155.1 t155.2.1 t155.2.2.1 t155.2.2.2 0 y13 x157 t157.1 t157.2.1 t157.2.2.1 t157.2.2.2 hc157) gL_law_X3_draw rfl (by decide +kernel) rfl ⟨by decide, by decide⟩ Jn.same rfl rfl rfl (Nat.le_of_ble_eq_true rfl) dL_law_1084 (fun H locs hP hD hS => ?_)
          refine lv_bipush (v := (-2)) hx hb dL_law_1087 (by decide +kernel) ?_
          refine lv_icmp_ne (tgt := 1096) hx hb dL_law_1089 (by decide) (fun c158 => ?_) (fun c158 => ?_)
          · replace hc := ite_f c158 hc
            cases hc
          · replace hc := ite_t c158 hc
            refine lv_iconst (v := 1) hx hb dL_law_1092 (by decide) ?_
            refine lv_goto (tgt := 1097) hx hb dL_law_1093 (by decide) ?_
            refine lv_istore_n (lv' := [(2, .int 1), (0, .ref b), (1, .ref (aN 0 0)), (3, .int y3), (6, .int y6), (7, .int y7), (9, .int y9), (12, .int y12), (13, .int y13)]) hx hb dL_law_1097 rfl hl (by decide) rfl (fun ls hl => ?_)
            refine lv_goto (tgt := 1143) hx hb dL_law_1098 (by decide) ?_
            exact J1143 k85 hk85 y3 y6 y7 y9 y12 t157.1 t157.2.1 t157.2.2.1 t157.2.2.2 H locs ls hc hP hD hS (lv_sub hl [1, 2, 0, 3, 4, 5, 6, 7] rfl)
  have J983 : ∀ (k85 : Int32 → FV → FV → (Nat → FV) → FV → Option (Int32 × (FV × FV × (Nat → FV) × FV))) (hk85 : ∀ (y3 : Int32) (v1 : FV) (v2 : FV) (G : (Nat → FV)) (v3 : FV) (H : Heap) (locs : List Loc) (ls : Array Slot), k85 y3 v1 v2 G v3 = some (r, (v1', v2', G', v3')) → va_P D vwCl (NW cy aN v1 v2 G v3) H → va_D (fun q : Nat => s.heap.size ≤ q) (NW cy aN v1 v2 G v3) → va_S (fun q : Nat => s.heap.size ≤ q) s.heap H locs → lv_has ls 18 [(0, .ref b), (1, .ref (aN 0 0)), (2, .int 1), (3, .int y3)] → W p l e room_1 s m #[Value.ref b] below meth c H locs 600000 7302250 (lw_Z below #[Value.ref b] s) (F0 m 85 ls [])), ∀ (y3 : Int32) (y6 : Int32) (y7 : Int32) (y9 : Int32) (y12 : Int32) (y13 : Int32) (y15 : Int32) (y16 : Int64) (v1 : FV) (v2 : FV) (G : (Nat → FV)) (v3 : FV) (H : Heap) (locs : List Loc) (ls : Array Slot), f_L_law_J983 L xs k85 y3 y6 y7 y9 y12 y13 y15 y16 v1 v2 G v3 = some (r, (v1', v2', G', v3')) → va_P D vwCl (NW cy aN v1 v2 G v3) H → va_D (fun q : Nat => s.heap.size ≤ q) (NW cy aN v1 v2 G v3) → va_S (fun q : Nat => s.heap.size ≤ q) s.heap H locs → lv_has ls 18 [(0, .ref b), (1, .ref (aN 0 0)), (2, .int 1), (3, .int y3), (6, .int y6), (7, .int y7), (9, .int y9), (12, .int y12), (13, .int y13), (15, .int y15), (16, .long y16)] → W p l e room_1 s m #[Value.ref b] below meth c H locs 600000 7302250 (lw_Z below #[Value.ref b] s) (F0 m 983 ls []) := by
    intro k85 hk85 y3 y6 y7 y9 y12 y13 y15 y16 v1 v2 G v3 H locs ls hc hP hD hS hl
    refine lv_iload hx hb dL_law_983 (lv_at hl 7 rfl) ?_
    refine lv_iconst (v := 2) hx hb dL_law_985 (by decide) ?_
    refine lv_icmp_ne (tgt := 1038) hx hb dL_law_986 (by decide) (fun c149 => ?_) (fun c149 => ?_)
    · replace hc := ite_f c149 hc
      refine lv_iload_n hx hb dL_law_1038 rfl (lv_at hl 2 rfl) ?_
      refine lv_if_eq (tgt := 1096) hx hb dL_law_1039 (by decide) (fun c9 => absurd c9 (by decide)) (fun _ => ?_)
      refine lv_aload_n hx hb dL_law_1042 rfl (lv_at hl 1 rfl) ?_
      refine lv_iconst (v := 0) hx hb dL_law_1043 (by decide) ?_
      obtain ⟨x150, t150, hc150, hc⟩ := b2_some hc
      refine gc_VI (n := 1) (q0 := 0) (ci := 3) (w' := NW cy aN t150.1 t150.2.1 t150.2.2.1 t150.2.2.2) hx hb hml hown hts hK hP hD hS hA hl.1 ⟨Nat.le_refl _, Nat.le_refl _⟩ (C_X3_fault l D cy aN v1 v2 G v3 0 x150 t150.1 t150.2.1 t150.2.2.1 t150.2.2.2 hc150) gL_law_X3_fault rfl (by decide +kernel) rfl ⟨by decide, by decide⟩ Jn.same rfl rfl rfl (Nat.le_of_ble_eq_true rfl) dL_law_1044 (fun H locs hP hD hS => ?_)
      refine lv_iconst (v := 3) hx hb dL_law_1047 (by decide) ?_
      refine lv_icmp_ne (tgt := 1096) hx hb dL_law_1048 (by decide) (fun c151 => ?_) (fun c151 => ?_)
      · replace hc := ite_f c151 hc
        cases hc
      · replace hc := ite_t c151 hc
        refine lv_iload hx hb dL_law_1051 (lv_at hl 9 rfl) ?_
        refine lv_iload hx hb dL_law_1053 (lv_at hl 8 rfl) ?_
        refine lv_if_ne (tgt := 1062) hx hb dL_law_1055 (by decide) (fun c152 => ?_) (fun c152 => ?_)
        · replace hc := ite_f c152 hc
          refine lv_iconst (v := 3) hx hb dL_law_1062 (by decide) ?_
          exact J1063 k85 hk85 y3 y6 y7 y9 y12 y13 3 y15 t150.1 t150.2.1 t150.2.2.1 t150.2.2.2 H locs ls hc hP hD hS (lv_sub hl [0, 1, 3, 4, 5, 6, 7, 8] rfl)
        · replace hc := ite_t c152 hc
          refine lv_iconst (v := 2) hx hb dL_law_1058 (by decide) ?_
          refine lv_goto (tgt := 1063) hx hb dL_law_1059 (by decide) ?_
          exact J1063 k85 hk85 y3 y6 y7 y9 y12 y13 2 y15 t150.1 t150.2.1 t150.2.2.1 t150.2.2.2 H locs ls hc hP hD hS (lv_sub hl [0, 1, 3, 4, 5, 6, 7, 8] rfl)
    · replace hc := ite_t c149 hc
      refine lv_iload_n hx hb dL_law_989 rfl (lv_at hl 2 rfl) ?_
      refine lv_if_eq (tgt := 1033) hx hb dL_law_990 (by decide) (fun c9 => absurd c9 (by decide)) (fun _ => ?_)
      refine lv_aload_n hx hb dL_law_993 rfl (lv_at hl 1 rfl) ?_
      obtain ⟨x159, t159, hc159, hc⟩ := b2_some hc
      refine gc_VI (n := 0) (q0 := 0) (ci := 3) (w' := NW cy aN t159.1 t159.2.1 t159.2.2.1 t159.2.2.2) hx hb hml hown hts hK hP hD hS hA hl.1 ⟨Nat.le_refl _, Nat.le_refl _⟩ (C_X3_undo l D cy aN v1 v2 G v3 x159 t159.1 t159.2.1 t159.2.2.1 t159.2.2.2 hc159) gL_law_X3_undo rfl (by decide +kernel) rfl ⟨by decide, by decide⟩ Jn.same rfl rfl rfl (Nat.le_of_ble_eq_true rfl) dL_law_994 (fun H locs hP hD hS => ?_)
      refine lv_if_lt (tgt := 1033) hx hb dL_law_997 (by decide) (fun c160 => ?_) (fun c160 => ?_)
      · replace hc := ite_t c160 hc
        cases hc
      · replace hc := ite_f c160 hc
        refine lv_aload_n hx hb dL_law_1000 rfl (lv_at hl 1 rfl) ?_
        refine lv_bipush (v := 9) hx hb dL_law_1001 (by decide +kernel) ?_
        obtain ⟨x161, t161, hc161, hc⟩ := b2_some hc
        refine gc_VI (n := 1) (q0 := 0) (ci := 3) (w' := NW cy aN t161.1 t161.2.1 t161.2.2.1 t161.2.2.2) hx hb hml hown hts hK hP hD hS hA hl.1 ⟨Nat.le_refl _, Nat.le_refl _⟩ (C_X3_tick l D cy aN t159.1 t159.2.1 t159.2.2.1 t159.2.2.2 9 x161 t161.1 t161.2.1 t161.2.2.1 t161.2.2.2 hc161) gL_law_X3_tick rfl (by decide +kernel) rfl ⟨by decide, by decide⟩ Jn.same rfl rfl rfl (Nat.le_of_ble_eq_true rfl) dL_law_1003 (fun H locs hP hD hS => ?_)
        refine lv_if_lt (tgt := 1033) hx hb dL_law_1006 (by decide) (fun c162 => ?_) (fun c162 => ?_)
        · replace hc := ite_t c162 hc
          cases hc
        · replace hc := ite_f c162 hc
          refine lv_aload_n hx hb dL_law_1009 rfl (lv_at hl 1 rfl) ?_
          refine lv_iconst (v := 0) hx hb dL_law_1010 (by decide) ?_
          refine lv_iload hx hb dL_law_1011 (lv_at hl 8 rfl) ?_
          obtain ⟨x163, t163, hc163, hc⟩ := b2_some hc
          refine gc_VI (n := 2) (q0 := 0) (ci := 3) (w' := NW cy aN t163.1 t163.2.1 t163.2.2.1 t163.2.2.2) hx hb hml hown hts hK hP hD hS hA hl.1 ⟨Nat.le_refl _, Nat.le_refl _⟩ (C_X3_draw l D cy aN t161.1 t161.2.1 t161.2.2.1 t161.2.2.2 0 y13 x163 t163.1 t163.2.1 t163.2.2.1 t163.2.2.2 hc163) gL_law_X3_draw rfl (by decide +kernel) rfl ⟨by decide, by decide⟩ Jn.same rfl rfl rfl (Nat.le_of_ble_eq_true rfl) dL_law_1013 (fun H locs hP hD hS => ?_)
          refine lv_if_lt (tgt := 1033) hx hb dL_law_1016 (by decide) (fun c164 => ?_) (fun c164 => ?_)
          · replace hc := ite_t c164 hc
            cases hc
          · replace hc := ite_f c164 hc
            refine lv_aload_n hx hb dL_law_1019 rfl (lv_at hl 1 rfl) ?_
            obtain ⟨x165, hc165, hc⟩ := b1_some hc
            refine gc_SL (n := 1) (w' := NW cy aN t163.1 t163.2.1 t163.2.2.1 t163.2.2.2) hx hb hml hown hts hK hP hD hS hA hl.1 ⟨Nat.le_refl _, Nat.le_refl _⟩ (C_L_print l D cy aN t163.1 t163.2.1 t163.2.2.1 t163.2.2.2 x165 hc165) gL_law_L_print rfl (by decide +kernel) rfl ⟨by decide, by decide⟩ Jn.same rfl (Nat.le_of_ble_eq_true rfl) dL_law_1020 (fun H locs hP hD hS => ?_)
            refine lv_lload hx hb dL_law_1023 (lv_at hl 10 rfl) ?_
            refine W.lcmp hx hb dL_law_1025 ?_
            by_cases c166 : x165 = y16
            · replace hc := ite_t c166 hc
              rw [show lg_cmp x165 y16 = 0 by rw [c166]; simp [lg_cmp]]
              refine lv_if_ne (tgt := 1033) hx hb dL_law_1026 (by decide) (fun c9 => absurd rfl c9) (fun _ => ?_)
              refine lv_iconst (v := 1) hx hb dL_law_1029 (by decide) ?_
              refine lv_goto (tgt := 1034) hx hb dL_law_1030 (by decide) ?_
              refine lv_istore_n (lv' := [(2, .int 1), (0, .ref b), (1, .ref (aN 0 0)), (3, .int y3), (6, .int y6), (7, .int y7), (9, .int y9), (12, .int y12), (13, .int y13), (15, .int y15), (16, .long y16)]) hx hb dL_law_1034 rfl hl (by decide) rfl (fun ls hl => ?_)
              refine lv_goto (tgt := 1143) hx hb dL_law_1035 (by decide) ?_
              exact J1143 k85 hk85 y3 y6 y7 y9 y12 t163.1 t163.2.1 t163.2.2.1 t163.2.2.2 H locs ls hc hP hD hS (lv_sub hl [1, 2, 0, 3, 4, 5, 6, 7] rfl)
            · replace hc := ite_f c166 hc
              cases hc
  have J963 : ∀ (k85 : Int32 → FV → FV → (Nat → FV) → FV → Option (Int32 × (FV × FV × (Nat → FV) × FV))) (hk85 : ∀ (y3 : Int32) (v1 : FV) (v2 : FV) (G : (Nat → FV)) (v3 : FV) (H : Heap) (locs : List Loc) (ls : Array Slot), k85 y3 v1 v2 G v3 = some (r, (v1', v2', G', v3')) → va_P D vwCl (NW cy aN v1 v2 G v3) H → va_D (fun q : Nat => s.heap.size ≤ q) (NW cy aN v1 v2 G v3) → va_S (fun q : Nat => s.heap.size ≤ q) s.heap H locs → lv_has ls 18 [(0, .ref b), (1, .ref (aN 0 0)), (2, .int 1), (3, .int y3)] → W p l e room_1 s m #[Value.ref b] below meth c H locs 600000 7302250 (lw_Z below #[Value.ref b] s) (F0 m 85 ls [])), ∀ (y3 : Int32) (y6 : Int32) (y7 : Int32) (y9 : Int32) (y12 : Int32) (y13 : Int32) (y15 : Int32) (y16 : Int64) (z0 : Int32) (z1 : Int32) (v1 : FV) (v2 : FV) (G : (Nat → FV)) (v3 : FV) (H : Heap) (locs : List Loc) (ls : Array Slot), f_L_law_J963 L xs k85 y3 y6 y7 y9 y12 y13 y15 y16 z0 z1 v1 v2 G v3 = some (r, (v1', v2', G', v3')) → va_P D vwCl (NW cy aN v1 v2 G v3) H → va_D (fun q : Nat => s.heap.size ≤ q) (NW cy aN v1 v2 G v3) → va_S (fun q : Nat => s.heap.size ≤ q) s.heap H locs → lv_has ls 18 [(0, .ref b), (1, .ref (aN 0 0)), (3, .int y3), (6, .int y6), (7, .int y7), (9, .int y9), (12, .int y12), (13, .int y13), (15, .int y15), (16, .long y16)] → W p l e room_1 s m #[Value.ref b] below meth c H locs 600000 7302250 (lw_Z below #[Value.ref b] s) (F0 m 963 ls [.int z0, .int z1]) := by
    intro k85 hk85 y3 y6 y7 y9 y12 y13 y15 y16 z0 z1 v1 v2 G v3 H locs ls hc hP hD hS hl
    refine lv_icmp_ne (tgt := 981) hx hb dL_law_963 (by decide) (fun c146 => ?_) (fun c146 => ?_)
    · replace hc := ite_f c146 hc
      cases hc
    · replace hc := ite_t c146 hc
      refine lv_aload_n hx hb dL_law_966 rfl (lv_at hl 1 rfl) ?_
      refine lv_bipush (v := 14) hx hb dL_law_967 (by decide +kernel) ?_
      obtain ⟨x147, hc147, hc⟩ := b1_some hc
      refine gc_VI (n := 1) (q0 := 0) (ci := 3) (w' := NW cy aN v1 v2 G v3) hx hb hml hown hts hK hP hD hS hA hl.1 ⟨Nat.le_refl _, Nat.le_refl _⟩ (C_X3_count l D cy aN v1 v2 G v3 14 x147 hc147) gL_law_X3_count rfl (by decide +kernel) rfl ⟨by decide, by decide⟩ Jn.same rfl rfl rfl (Nat.le_of_ble_eq_true rfl) dL_law_969 (fun H locs hP hD hS => ?_)
      refine lv_bipush (v := 8) hx hb dL_law_972 (by decide +kernel) ?_
      refine lv_icmp_ne (tgt := 981) hx hb dL_law_974 (by decide) (fun c148 => ?_) (fun c148 => ?_)
      · replace hc := ite_f c148 hc
        cases hc
      · replace hc := ite_t c148 hc
        refine lv_iconst (v := 1) hx hb dL_law_977 (by decide) ?_
        refine lv_goto (tgt := 982) hx hb dL_law_978 (by decide) ?_
        refine lv_istore_n (lv' := [(2, .int 1), (0, .ref b), (1, .ref (aN 0 0)), (3, .int y3), (6, .int y6), (7, .int y7), (9, .int y9), (12, .int y12), (13, .int y13), (15, .int y15), (16, .long y16)]) hx hb dL_law_982 rfl hl (by decide) rfl (fun ls hl => ?_)
        exact J983 k85 hk85 y3 y6 y7 y9 y12 y13 y15 y16 v1 v2 G v3 H locs ls hc hP hD hS (lv_sub hl [1, 2, 0, 3, 4, 5, 6, 7, 8, 9, 10] rfl)
  have J817 : ∀ (k85 : Int32 → FV → FV → (Nat → FV) → FV → Option (Int32 × (FV × FV × (Nat → FV) × FV))) (hk85 : ∀ (y3 : Int32) (v1 : FV) (v2 : FV) (G : (Nat → FV)) (v3 : FV) (H : Heap) (locs : List Loc) (ls : Array Slot), k85 y3 v1 v2 G v3 = some (r, (v1', v2', G', v3')) → va_P D vwCl (NW cy aN v1 v2 G v3) H → va_D (fun q : Nat => s.heap.size ≤ q) (NW cy aN v1 v2 G v3) → va_S (fun q : Nat => s.heap.size ≤ q) s.heap H locs → lv_has ls 18 [(0, .ref b), (1, .ref (aN 0 0)), (2, .int 1), (3, .int y3)] → W p l e room_1 s m #[Value.ref b] below meth c H locs 600000 7302250 (lw_Z below #[Value.ref b] s) (F0 m 85 ls [])), ∀ (y3 : Int32) (y6 : Int32) (y7 : Int32) (y9 : Int32) (v1 : FV) (v2 : FV) (G : (Nat → FV)) (v3 : FV) (H : Heap) (locs : List Loc) (ls : Array Slot), f_L_law_J817 L xs k85 y3 y6 y7 y9 v1 v2 G v3 = some (r, (v1', v2', G', v3')) → va_P D vwCl (NW cy aN v1 v2 G v3) H → va_D (fun q : Nat => s.heap.size ≤ q) (NW cy aN v1 v2 G v3) → va_S (fun q : Nat => s.heap.size ≤ q) s.heap H locs → lv_has ls 18 [(0, .ref b), (1, .ref (aN 0 0)), (3, .int y3), (6, .int y6), (7, .int y7), (9, .int y9)] → W p l e room_1 s m #[Value.ref b] below meth c H locs 600000 7302250 (lw_Z below #[Value.ref b] s) (F0 m 817 ls []) := by
    intro k85 hk85 y3 y6 y7 y9 v1 v2 G v3 H locs ls hc hP hD hS hl
    refine lv_iload hx hb dL_law_817 (lv_at hl 5 rfl) ?_
    refine lv_bipush (v := 10) hx hb dL_law_819 (by decide +kernel) ?_
    refine lv_irem hx hb dL_law_821 (by decide) ?_
    refine lv_istore (lv' := [(13, .int (y9 - y9 / 10 * 10)), (0, .ref b), (1, .ref (aN 0 0)), (3, .int y3), (6, .int y6), (7, .int y7), (9, .int y9)]) hx hb dL_law_822 hl (by decide) rfl (fun ls hl => ?_)
    refine lv_aload_n hx hb dL_law_824 rfl (lv_at hl 2 rfl) ?_
    obtain ⟨x124, t124, hc124, hc⟩ := b2_some hc
    refine gc_VI (n := 0) (q0 := 0) (ci := 3) (w' := NW cy aN t124.1 t124.2.1 t124.2.2.1 t124.2.2.2) hx hb hml hown hts hK hP hD hS hA hl.1 ⟨Nat.le_refl _, Nat.le_refl _⟩ (C_X3_clearText l D cy aN v1 v2 G v3 x124 t124.1 t124.2.1 t124.2.2.1 t124.2.2.2 hc124) gL_law_X3_clearText rfl (by decide +kernel) rfl ⟨by decide, by decide⟩ Jn.same rfl rfl rfl (Nat.le_of_ble_eq_true rfl) dL_law_825 (fun H locs hP hD hS => ?_)
    refine lv_if_lt (tgt := 921) hx hb dL_law_828 (by decide) (fun c125 => ?_) (fun c125 => ?_)
    · replace hc := ite_t c125 hc
      cases hc
    · replace hc := ite_f c125 hc
      refine lv_aload_n hx hb dL_law_831 rfl (lv_at hl 2 rfl) ?_
      refine lv_bipush (v := 116) hx hb dL_law_832 (by decide +kernel) ?_
      obtain ⟨x126, t126, hc126, hc⟩ := b2_some hc
      refine gc_VI (n := 1) (q0 := 0) (ci := 3) (w' := NW cy aN t126.1 t126.2.1 t126.2.2.1 t126.2.2.2) hx hb hml hown hts hK hP hD hS hA hl.1 ⟨Nat.le_refl _, Nat.le_refl _⟩ (C_X3_type l D cy aN t124.1 t124.2.1 t124.2.2.1 t124.2.2.2 116 x126 t126.1 t126.2.1 t126.2.2.1 t126.2.2.2 hc126) gL_law_X3_type rfl (by decide +kernel) rfl ⟨by decide, by decide⟩ Jn.same rfl rfl rfl (Nat.le_of_ble_eq_true rfl) dL_law_834 (fun H locs hP hD hS => ?_)
      refine lv_iconst (v := 1) hx hb dL_law_837 (by decide) ?_
      refine lv_icmp_ne (tgt := 921) hx hb dL_law_838 (by decide) (fun c127 => ?_) (fun c127 => ?_)
      · replace hc := ite_f c127 hc
        cases hc
      · replace hc := ite_t c127 hc
        refine lv_aload_n hx hb dL_law_841 rfl (lv_at hl 2 rfl) ?_
        refine lv_bipush (v := 57) hx hb dL_law_842 (by decide +kernel) ?_
        obtain ⟨x128, t128, hc128, hc⟩ := b2_some hc
        refine gc_VI (n := 1) (q0 := 0) (ci := 3) (w' := NW cy aN t128.1 t128.2.1 t128.2.2.1 t128.2.2.2) hx hb hml hown hts hK hP hD hS hA hl.1 ⟨Nat.le_refl _, Nat.le_refl _⟩ (C_X3_type l D cy aN t126.1 t126.2.1 t126.2.2.1 t126.2.2.2 57 x128 t128.1 t128.2.1 t128.2.2.1 t128.2.2.2 hc128) gL_law_X3_type rfl (by decide +kernel) rfl ⟨by decide, by decide⟩ Jn.same rfl rfl rfl (Nat.le_of_ble_eq_true rfl) dL_law_844 (fun H locs hP hD hS => ?_)
        refine lv_iconst (v := 2) hx hb dL_law_847 (by decide) ?_
        refine lv_icmp_ne (tgt := 921) hx hb dL_law_848 (by decide) (fun c129 => ?_) (fun c129 => ?_)
        · replace hc := ite_f c129 hc
          cases hc
        · replace hc := ite_t c129 hc
          refine lv_aload_n hx hb dL_law_851 rfl (lv_at hl 2 rfl) ?_
          refine lv_bipush (v := 59) hx hb dL_law_852 (by decide +kernel) ?_
          obtain ⟨x130, t130, hc130, hc⟩ := b2_some hc
          refine gc_VI (n := 1) (q0 := 0) (ci := 3) (w' := NW cy aN t130.1 t130.2.1 t130.2.2.1 t130.2.2.2) hx hb hml hown hts hK hP hD hS hA hl.1 ⟨Nat.le_refl _, Nat.le_refl _⟩ (C_X3_type l D cy aN t128.1 t128.2.1 t128.2.2.1 t128.2.2.2 59 x130 t130.1 t130.2.1 t130.2.2.1 t130.2.2.2 hc130) gL_law_X3_type rfl (by decide +kernel) rfl ⟨by decide, by decide⟩ Jn.same rfl rfl rfl (Nat.le_of_ble_eq_true rfl) dL_law_854 (fun H locs hP hD hS => ?_)
          refine lv_iconst (v := 3) hx hb dL_law_857 (by decide) ?_
          refine lv_icmp_ne (tgt := 921) hx hb dL_law_858 (by decide) (fun c131 => ?_) (fun c131 => ?_)
          · replace hc := ite_f c131 hc
            cases hc
          · replace hc := ite_t c131 hc
            refine lv_aload_n hx hb dL_law_861 rfl (lv_at hl 2 rfl) ?_
            refine lv_bipush (v := 100) hx hb dL_law_862 (by decide +kernel) ?_
            obtain ⟨x132, t132, hc132, hc⟩ := b2_some hc
            refine gc_VI (n := 1) (q0 := 0) (ci := 3) (w' := NW cy aN t132.1 t132.2.1 t132.2.2.1 t132.2.2.2) hx hb hml hown hts hK hP hD hS hA hl.1 ⟨Nat.le_refl _, Nat.le_refl _⟩ (C_X3_type l D cy aN t130.1 t130.2.1 t130.2.2.1 t130.2.2.2 100 x132 t132.1 t132.2.1 t132.2.2.1 t132.2.2.2 hc132) gL_law_X3_type rfl (by decide +kernel) rfl ⟨by decide, by decide⟩ Jn.same rfl rfl rfl (Nat.le_of_ble_eq_true rfl) dL_law_864 (fun H locs hP hD hS => ?_)
            refine lv_iconst (v := 4) hx hb dL_law_867 (by decide) ?_
            refine lv_icmp_ne (tgt := 921) hx hb dL_law_868 (by decide) (fun c133 => ?_) (fun c133 => ?_)
            · replace hc := ite_f c133 hc
              cases hc
            · replace hc := ite_t c133 hc
              refine lv_aload_n hx hb dL_law_871 rfl (lv_at hl 2 rfl) ?_
              refine lv_bipush (v := 48) hx hb dL_law_872 (by decide +kernel) ?_
              obtain ⟨x134, t134, hc134, hc⟩ := b2_some hc
              refine gc_VI (n := 1) (q0 := 0) (ci := 3) (w' := NW cy aN t134.1 t134.2.1 t134.2.2.1 t134.2.2.2) hx hb hml hown hts hK hP hD hS hA hl.1 ⟨Nat.le_refl _, Nat.le_refl _⟩ (C_X3_type l D cy aN t132.1 t132.2.1 t132.2.2.1 t132.2.2.2 48 x134 t134.1 t134.2.1 t134.2.2.1 t134.2.2.2 hc134) gL_law_X3_type rfl (by decide +kernel) rfl ⟨by decide, by decide⟩ Jn.same rfl rfl rfl (Nat.le_of_ble_eq_true rfl) dL_law_874 (fun H locs hP hD hS => ?_)
              refine lv_iconst (v := 5) hx hb dL_law_877 (by decide) ?_
              refine lv_icmp_ne (tgt := 921) hx hb dL_law_878 (by decide) (fun c135 => ?_) (fun c135 => ?_)
              · replace hc := ite_f c135 hc
                cases hc
              · replace hc := ite_t c135 hc
                refine lv_aload_n hx hb dL_law_881 rfl (lv_at hl 2 rfl) ?_
                refine lv_bipush (v := 44) hx hb dL_law_882 (by decide +kernel) ?_
                obtain ⟨x136, t136, hc136, hc⟩ := b2_some hc
                refine gc_VI (n := 1) (q0 := 0) (ci := 3) (w' := NW cy aN t136.1 t136.2.1 t136.2.2.1 t136.2.2.2) hx hb hml hown hts hK hP hD hS hA hl.1 ⟨Nat.le_refl _, Nat.le_refl _⟩ (C_X3_type l D cy aN t134.1 t134.2.1 t134.2.2.1 t134.2.2.2 44 x136 t136.1 t136.2.1 t136.2.2.1 t136.2.2.2 hc136) gL_law_X3_type rfl (by decide +kernel) rfl ⟨by decide, by decide⟩ Jn.same rfl rfl rfl (Nat.le_of_ble_eq_true rfl) dL_law_884 (fun H locs hP hD hS => ?_)
                refine lv_bipush (v := 6) hx hb dL_law_887 (by decide +kernel) ?_
                refine lv_icmp_ne (tgt := 921) hx hb dL_law_889 (by decide) (fun c137 => ?_) (fun c137 => ?_)
                · replace hc := ite_f c137 hc
                  cases hc
                · replace hc := ite_t c137 hc
                  refine lv_aload_n hx hb dL_law_892 rfl (lv_at hl 2 rfl) ?_
                  refine lv_bipush (v := 48) hx hb dL_law_893 (by decide +kernel) ?_
                  refine lv_iload hx hb dL_law_895 (lv_at hl 0 rfl) ?_
                  refine lv_iadd hx hb dL_law_897 ?_
                  obtain ⟨x138, t138, hc138, hc⟩ := b2_some hc
                  refine gc_VI (n := 1) (q0 := 0) (ci := 3) (w' := NW cy aN t138.1 t138.2.1 t138.2.2.1 t138.2.2.2) hx hb hml hown hts hK hP hD hS hA hl.1 ⟨Nat.le_refl _, Nat.le_refl _⟩ (C_X3_type l D cy aN t136.1 t136.2.1 t136.2.2.1 t136.2.2.2 (48 + (y9 - y9 / 10 * 10)) x138 t138.1 t138.2.1 t138.2.2.1 t138.2.2.2 hc138) gL_law_X3_type rfl (by decide +kernel) rfl ⟨by decide, by decide⟩ Jn.same rfl rfl rfl (Nat.le_of_ble_eq_true rfl) dL_law_898 (fun H locs hP hD hS => ?_)
                  refine lv_bipush (v := 7) hx hb dL_law_901 (by decide +kernel) ?_
                  refine lv_icmp_ne (tgt := 921) hx hb dL_law_903 (by decide) (fun c139 => ?_) (fun c139 => ?_)
                  · replace hc := ite_f c139 hc
                    cases hc
                  · replace hc := ite_t c139 hc
                    refine lv_aload_n hx hb dL_law_906 rfl (lv_at hl 2 rfl) ?_
                    refine lv_bipush (v := 59) hx hb dL_law_907 (by decide +kernel) ?_
                    obtain ⟨x140, t140, hc140, hc⟩ := b2_some hc
                    refine gc_VI (n := 1) (q0 := 0) (ci := 3) (w' := NW cy aN t140.1 t140.2.1 t140.2.2.1 t140.2.2.2) hx hb hml hown hts hK hP hD hS hA hl.1 ⟨Nat.le_refl _, Nat.le_refl _⟩ (C_X3_type l D cy aN t138.1 t138.2.1 t138.2.2.1 t138.2.2.2 59 x140 t140.1 t140.2.1 t140.2.2.1 t140.2.2.2 hc140) gL_law_X3_type rfl (by decide +kernel) rfl ⟨by decide, by decide⟩ Jn.same rfl rfl rfl (Nat.le_of_ble_eq_true rfl) dL_law_909 (fun H locs hP hD hS => ?_)
                    refine lv_bipush (v := 8) hx hb dL_law_912 (by decide +kernel) ?_
                    refine lv_icmp_ne (tgt := 921) hx hb dL_law_914 (by decide) (fun c141 => ?_) (fun c141 => ?_)
                    · replace hc := ite_f c141 hc
                      cases hc
                    · replace hc := ite_t c141 hc
                      refine lv_iconst (v := 1) hx hb dL_law_917 (by decide) ?_
                      refine lv_goto (tgt := 922) hx hb dL_law_918 (by decide) ?_
                      refine lv_istore (lv' := [(14, .int 1), (13, .int (y9 - y9 / 10 * 10)), (0, .ref b), (1, .ref (aN 0 0)), (3, .int y3), (6, .int y6), (7, .int y7), (9, .int y9)]) hx hb dL_law_922 hl (by decide) rfl (fun ls hl => ?_)
                      refine lv_aload_n hx hb dL_law_924 rfl (lv_at hl 3 rfl) ?_
                      refine lv_iconst (v := 1) hx hb dL_law_925 (by decide) ?_
                      obtain ⟨x142, t142, hc142, hc⟩ := b2_some hc
                      refine gc_VI (n := 1) (q0 := 0) (ci := 3) (w' := NW cy aN t142.1 t142.2.1 t142.2.2.1 t142.2.2.2) hx hb hml hown hts hK hP hD hS hA hl.1 ⟨Nat.le_refl _, Nat.le_refl _⟩ (C_X3_fault l D cy aN t140.1 t140.2.1 t140.2.2.1 t140.2.2.2 1 x142 t142.1 t142.2.1 t142.2.2.1 t142.2.2.2 hc142) gL_law_X3_fault rfl (by decide +kernel) rfl ⟨by decide, by decide⟩ Jn.same rfl rfl rfl (Nat.le_of_ble_eq_true rfl) dL_law_926 (fun H locs hP hD hS => ?_)
                      refine lv_istore (lv' := [(15, .int x142), (14, .int 1), (13, .int (y9 - y9 / 10 * 10)), (0, .ref b), (1, .ref (aN 0 0)), (3, .int y3), (6, .int y6), (7, .int y7), (9, .int y9)]) hx hb dL_law_929 hl (by decide) rfl (fun ls hl => ?_)
                      refine lv_aload_n hx hb dL_law_931 rfl (lv_at hl 4 rfl) ?_
                      obtain ⟨x143, t143, hc143, hc⟩ := b2_some hc
                      refine gc_VI (n := 0) (q0 := 0) (ci := 3) (w' := NW cy aN t143.1 t143.2.1 t143.2.2.1 t143.2.2.2) hx hb hml hown hts hK hP hD hS hA hl.1 ⟨Nat.le_refl _, Nat.le_refl _⟩ (C_X3_play l D cy aN t142.1 t142.2.1 t142.2.2.1 t142.2.2.2 x143 t143.1 t143.2.1 t143.2.2.1 t143.2.2.2 hc143) gL_law_X3_play rfl (by decide +kernel) rfl ⟨by decide, by decide⟩ Jn.same rfl rfl rfl (Nat.le_of_ble_eq_true rfl) dL_law_932 (fun H locs hP hD hS => ?_)
                      refine lv_istore (lv' := [(12, .int x143), (15, .int x142), (14, .int 1), (13, .int (y9 - y9 / 10 * 10)), (0, .ref b), (1, .ref (aN 0 0)), (3, .int y3), (6, .int y6), (7, .int y7), (9, .int y9)]) hx hb dL_law_935 hl (by decide) rfl (fun ls hl => ?_)
                      refine lv_aload_n hx hb dL_law_937 rfl (lv_at hl 5 rfl) ?_
                      obtain ⟨x144, hc144, hc⟩ := b1_some hc
                      refine gc_SL (n := 1) (w' := NW cy aN t143.1 t143.2.1 t143.2.2.1 t143.2.2.2) hx hb hml hown hts hK hP hD hS hA hl.1 ⟨Nat.le_refl _, Nat.le_refl _⟩ (C_L_print l D cy aN t143.1 t143.2.1 t143.2.2.1 t143.2.2.2 x144 hc144) gL_law_L_print rfl (by decide +kernel) rfl ⟨by decide, by decide⟩ Jn.same rfl (Nat.le_of_ble_eq_true rfl) dL_law_938 (fun H locs hP hD hS => ?_)
                      refine lv_lstore (lv' := [(16, .long x144), (12, .int x143), (15, .int x142), (14, .int 1), (13, .int (y9 - y9 / 10 * 10)), (0, .ref b), (1, .ref (aN 0 0)), (3, .int y3), (6, .int y6), (7, .int y7), (9, .int y9)]) hx hb dL_law_941 hl (by decide) rfl (fun ls hl => ?_)
                      refine lv_iload hx hb dL_law_943 (lv_at hl 3 rfl) ?_
                      refine lv_if_eq (tgt := 981) hx hb dL_law_945 (by decide) (fun c9 => absurd c9 (by decide)) (fun _ => ?_)
                      refine lv_iload hx hb dL_law_948 (lv_at hl 1 rfl) ?_
                      refine lv_iload hx hb dL_law_950 (lv_at hl 2 rfl) ?_
                      refine lv_bipush (v := (-4)) hx hb dL_law_952 (by decide +kernel) ?_
                      refine lv_icmp_ne (tgt := 961) hx hb dL_law_954 (by decide) (fun c145 => ?_) (fun c145 => ?_)
                      · replace hc := ite_f c145 hc
                        refine lv_bipush (v := (-2)) hx hb dL_law_961 (by decide +kernel) ?_
                        exact J963 k85 hk85 y3 y6 y7 y9 x143 (y9 - y9 / 10 * 10) x142 x144 ((-2)) x143 t143.1 t143.2.1 t143.2.2.1 t143.2.2.2 H locs ls hc hP hD hS (lv_sub hl [5, 6, 7, 8, 9, 10, 1, 4, 2, 0] rfl)
                      · replace hc := ite_t c145 hc
                        refine lv_iconst (v := 2) hx hb dL_law_957 (by decide) ?_
                        refine lv_goto (tgt := 963) hx hb dL_law_958 (by decide) ?_
                        exact J963 k85 hk85 y3 y6 y7 y9 x143 (y9 - y9 / 10 * 10) x142 x144 2 x143 t143.1 t143.2.1 t143.2.2.1 t143.2.2.2 H locs ls hc hP hD hS (lv_sub hl [5, 6, 7, 8, 9, 10, 1, 4, 2, 0] rfl)
  have J1131 : ∀ (k85 : Int32 → FV → FV → (Nat → FV) → FV → Option (Int32 × (FV × FV × (Nat → FV) × FV))) (hk85 : ∀ (y3 : Int32) (v1 : FV) (v2 : FV) (G : (Nat → FV)) (v3 : FV) (H : Heap) (locs : List Loc) (ls : Array Slot), k85 y3 v1 v2 G v3 = some (r, (v1', v2', G', v3')) → va_P D vwCl (NW cy aN v1 v2 G v3) H → va_D (fun q : Nat => s.heap.size ≤ q) (NW cy aN v1 v2 G v3) → va_S (fun q : Nat => s.heap.size ≤ q) s.heap H locs → lv_has ls 18 [(0, .ref b), (1, .ref (aN 0 0)), (2, .int 1), (3, .int y3)] → W p l e room_1 s m #[Value.ref b] below meth c H locs 600000 7302250 (lw_Z below #[Value.ref b] s) (F0 m 85 ls [])), ∀ (y3 : Int32) (y6 : Int32) (y7 : Int32) (y9 : Int32) (y12 : Int32) (z0 : Int32) (z1 : Int32) (v1 : FV) (v2 : FV) (G : (Nat → FV)) (v3 : FV) (H : Heap) (locs : List Loc) (ls : Array Slot), f_L_law_J1131 L xs k85 y3 y6 y7 y9 y12 z0 z1 v1 v2 G v3 = some (r, (v1', v2', G', v3')) → va_P D vwCl (NW cy aN v1 v2 G v3) H → va_D (fun q : Nat => s.heap.size ≤ q) (NW cy aN v1 v2 G v3) → va_S (fun q : Nat => s.heap.size ≤ q) s.heap H locs → lv_has ls 18 [(0, .ref b), (1, .ref (aN 0 0)), (3, .int y3), (6, .int y6), (7, .int y7), (9, .int y9), (12, .int y12)] → W p l e room_1 s m #[Value.ref b] below meth c H locs 600000 7302250 (lw_Z below #[Value.ref b] s) (F0 m 1131 ls [.int z0, .int z1]) := by
    intro k85 hk85 y3 y6 y7 y9 y12 z0 z1 v1 v2 G v3 H locs ls hc hP hD hS hl
    refine lv_icmp_ne (tgt := 1138) hx hb dL_law_1131 (by decide) (fun c170 => ?_) (fun c170 => ?_)
    · replace hc := ite_f c170 hc
      cases hc
    · replace hc := ite_t c170 hc
      refine lv_iconst (v := 1) hx hb dL_law_1134 (by decide) ?_
      refine lv_goto (tgt := 1139) hx hb dL_law_1135 (by decide) ?_
      refine lv_istore_n (lv' := [(2, .int 1), (0, .ref b), (1, .ref (aN 0 0)), (3, .int y3), (6, .int y6), (7, .int y7), (9, .int y9), (12, .int y12)]) hx hb dL_law_1139 rfl hl (by decide) rfl (fun ls hl => ?_)
      refine lv_goto (tgt := 1143) hx hb dL_law_1140 (by decide) ?_
      exact J1143 k85 hk85 y3 y6 y7 y9 y12 v1 v2 G v3 H locs ls hc hP hD hS (lv_sub hl [1, 2, 0, 3, 4, 5, 6, 7] rfl)
  have J1101 : ∀ (k85 : Int32 → FV → FV → (Nat → FV) → FV → Option (Int32 × (FV × FV × (Nat → FV) × FV))) (hk85 : ∀ (y3 : Int32) (v1 : FV) (v2 : FV) (G : (Nat → FV)) (v3 : FV) (H : Heap) (locs : List Loc) (ls : Array Slot), k85 y3 v1 v2 G v3 = some (r, (v1', v2', G', v3')) → va_P D vwCl (NW cy aN v1 v2 G v3) H → va_D (fun q : Nat => s.heap.size ≤ q) (NW cy aN v1 v2 G v3) → va_S (fun q : Nat => s.heap.size ≤ q) s.heap H locs → lv_has ls 18 [(0, .ref b), (1, .ref (aN 0 0)), (2, .int 1), (3, .int y3)] → W p l e room_1 s m #[Value.ref b] below meth c H locs 600000 7302250 (lw_Z below #[Value.ref b] s) (F0 m 85 ls [])), ∀ (y3 : Int32) (y6 : Int32) (y7 : Int32) (y9 : Int32) (v1 : FV) (v2 : FV) (G : (Nat → FV)) (v3 : FV) (H : Heap) (locs : List Loc) (ls : Array Slot), f_L_law_J1101 L xs k85 y3 y6 y7 y9 v1 v2 G v3 = some (r, (v1', v2', G', v3')) → va_P D vwCl (NW cy aN v1 v2 G v3) H → va_D (fun q : Nat => s.heap.size ≤ q) (NW cy aN v1 v2 G v3) → va_S (fun q : Nat => s.heap.size ≤ q) s.heap H locs → lv_has ls 18 [(0, .ref b), (1, .ref (aN 0 0)), (3, .int y3), (6, .int y6), (7, .int y7), (9, .int y9)] → W p l e room_1 s m #[Value.ref b] below meth c H locs 600000 7302250 (lw_Z below #[Value.ref b] s) (F0 m 1101 ls []) := by
    intro k85 hk85 y3 y6 y7 y9 v1 v2 G v3 H locs ls hc hP hD hS hl
    refine lv_aload_n hx hb dL_law_1101 rfl (lv_at hl 1 rfl) ?_
    refine lv_bipush (v := 13) hx hb dL_law_1102 (by decide +kernel) ?_
    obtain ⟨x167, hc167, hc⟩ := b1_some hc
    refine gc_VI (n := 1) (q0 := 0) (ci := 3) (w' := NW cy aN v1 v2 G v3) hx hb hml hown hts hK hP hD hS hA hl.1 ⟨Nat.le_refl _, Nat.le_refl _⟩ (C_X3_count l D cy aN v1 v2 G v3 13 x167 hc167) gL_law_X3_count rfl (by decide +kernel) rfl ⟨by decide, by decide⟩ Jn.same rfl rfl rfl (Nat.le_of_ble_eq_true rfl) dL_law_1104 (fun H locs hP hD hS => ?_)
    refine lv_istore (lv' := [(13, .int x167), (0, .ref b), (1, .ref (aN 0 0)), (3, .int y3), (6, .int y6), (7, .int y7), (9, .int y9)]) hx hb dL_law_1107 hl (by decide) rfl (fun ls hl => ?_)
    refine lv_aload_n hx hb dL_law_1109 rfl (lv_at hl 2 rfl) ?_
    obtain ⟨x168, t168, hc168, hc⟩ := b2_some hc
    refine gc_VI (n := 0) (q0 := 0) (ci := 3) (w' := NW cy aN t168.1 t168.2.1 t168.2.2.1 t168.2.2.2) hx hb hml hown hts hK hP hD hS hA hl.1 ⟨Nat.le_refl _, Nat.le_refl _⟩ (C_X3_undo l D cy aN v1 v2 G v3 x168 t168.1 t168.2.1 t168.2.2.1 t168.2.2.2 hc168) gL_law_X3_undo rfl (by decide +kernel) rfl ⟨by decide, by decide⟩ Jn.same rfl rfl rfl (Nat.le_of_ble_eq_true rfl) dL_law_1110 (fun H locs hP hD hS => ?_)
    refine lv_istore (lv' := [(12, .int x168), (13, .int x167), (0, .ref b), (1, .ref (aN 0 0)), (3, .int y3), (6, .int y6), (7, .int y7), (9, .int y9)]) hx hb dL_law_1113 hl (by decide) rfl (fun ls hl => ?_)
    refine lv_iload hx hb dL_law_1115 (lv_at hl 0 rfl) ?_
    refine lv_iload hx hb dL_law_1117 (lv_at hl 1 rfl) ?_
    refine lv_if_ne (tgt := 1127) hx hb dL_law_1119 (by decide) (fun c169 => ?_) (fun c169 => ?_)
    · replace hc := ite_f c169 hc
      refine lv_iload hx hb dL_law_1127 (lv_at hl 1 rfl) ?_
      refine lv_iconst (v := 1) hx hb dL_law_1129 (by decide) ?_
      refine lv_isub hx hb dL_law_1130 ?_
      exact J1131 k85 hk85 y3 y6 y7 y9 x168 (x167 - 1) x168 t168.1 t168.2.1 t168.2.2.1 t168.2.2.2 H locs ls hc hP hD hS (lv_sub hl [2, 3, 4, 5, 6, 7, 0] rfl)
    · replace hc := ite_t c169 hc
      refine lv_bipush (v := (-2)) hx hb dL_law_1122 (by decide +kernel) ?_
      refine lv_goto (tgt := 1131) hx hb dL_law_1124 (by decide) ?_
      exact J1131 k85 hk85 y3 y6 y7 y9 x168 ((-2)) x168 t168.1 t168.2.1 t168.2.2.1 t168.2.2.2 H locs ls hc hP hD hS (lv_sub hl [2, 3, 4, 5, 6, 7, 0] rfl)
  have J199 : ∀ (k85 : Int32 → FV → FV → (Nat → FV) → FV → Option (Int32 × (FV × FV × (Nat → FV) × FV))) (hk85 : ∀ (y3 : Int32) (v1 : FV) (v2 : FV) (G : (Nat → FV)) (v3 : FV) (H : Heap) (locs : List Loc) (ls : Array Slot), k85 y3 v1 v2 G v3 = some (r, (v1', v2', G', v3')) → va_P D vwCl (NW cy aN v1 v2 G v3) H → va_D (fun q : Nat => s.heap.size ≤ q) (NW cy aN v1 v2 G v3) → va_S (fun q : Nat => s.heap.size ≤ q) s.heap H locs → lv_has ls 18 [(0, .ref b), (1, .ref (aN 0 0)), (2, .int 1), (3, .int y3)] → W p l e room_1 s m #[Value.ref b] below meth c H locs 600000 7302250 (lw_Z below #[Value.ref b] s) (F0 m 85 ls [])), ∀ (y3 : Int32) (y5 : Int32) (y6 : Int32) (y7 : Int32) (y8 : Int32) (y9 : Int32) (y10 : Int32) (y11 : Int32) (z0 : Int32) (v1 : FV) (v2 : FV) (G : (Nat → FV)) (v3 : FV) (H : Heap) (locs : List Loc) (ls : Array Slot), f_L_law_J199 L xs k85 y3 y5 y6 y7 y8 y9 y10 y11 z0 v1 v2 G v3 = some (r, (v1', v2', G', v3')) → va_P D vwCl (NW cy aN v1 v2 G v3) H → va_D (fun q : Nat => s.heap.size ≤ q) (NW cy aN v1 v2 G v3) → va_S (fun q : Nat => s.heap.size ≤ q) s.heap H locs → lv_has ls 18 [(0, .ref b), (1, .ref (aN 0 0)), (2, .int 1), (3, .int y3), (5, .int y5), (6, .int y6), (7, .int y7), (8, .int y8), (9, .int y9), (10, .int y10), (11, .int y11)] → W p l e room_1 s m #[Value.ref b] below meth c H locs 600000 7302250 (lw_Z below #[Value.ref b] s) (F0 m 199 ls [.int z0]) := by
    intro k85 hk85 y3 y5 y6 y7 y8 y9 y10 y11 z0 v1 v2 G v3 H locs ls hc hP hD hS hl
    by_cases c31 : z0 = 0
    · replace hc := ite_t c31 hc
      refine lv_tableIn (off := 77) (tgt := 276) hx hb dL_law_199 (by rw [c31]; decide) (by rw [c31]; decide) (by rw [c31]; rfl) (by decide) ?_
      exact J276 k85 hk85 y3 y5 y6 y7 y8 y9 v1 v2 G v3 H locs ls hc hP hD hS (lv_sub hl [0, 1, 3, 4, 5, 6, 7, 8] rfl)
    replace hc := ite_f c31 hc
    by_cases c55 : z0 = 1
    · replace hc := ite_t c55 hc
      refine lv_tableIn (off := 77) (tgt := 276) hx hb dL_law_199 (by rw [c55]; decide) (by rw [c55]; decide) (by rw [c55]; rfl) (by decide) ?_
      exact J276 k85 hk85 y3 y5 y6 y7 y8 y9 v1 v2 G v3 H locs ls hc hP hD hS (lv_sub hl [0, 1, 3, 4, 5, 6, 7, 8] rfl)
    replace hc := ite_f c55 hc
    by_cases c56 : z0 = 2
    · replace hc := ite_t c56 hc
      refine lv_tableIn (off := 144) (tgt := 343) hx hb dL_law_199 (by rw [c56]; decide) (by rw [c56]; decide) (by rw [c56]; rfl) (by decide) ?_
      exact J343 k85 hk85 y3 y6 y7 y8 y9 v1 v2 G v3 H locs ls hc hP hD hS (lv_sub hl [0, 1, 3, 5, 6, 7, 8] rfl)
    replace hc := ite_f c56 hc
    by_cases c65 : z0 = 3
    · replace hc := ite_t c65 hc
      refine lv_tableIn (off := 219) (tgt := 418) hx hb dL_law_199 (by rw [c65]; decide) (by rw [c65]; decide) (by rw [c65]; rfl) (by decide) ?_
      exact J418 k85 hk85 y3 y6 y7 y8 y9 y11 v1 v2 G v3 H locs ls hc hP hD hS (lv_sub hl [0, 1, 3, 5, 6, 7, 8, 10] rfl)
    replace hc := ite_f c65 hc
    by_cases c73 : z0 = 4
    · replace hc := ite_t c73 hc
      refine lv_tableIn (off := 219) (tgt := 418) hx hb dL_law_199 (by rw [c73]; decide) (by rw [c73]; decide) (by rw [c73]; rfl) (by decide) ?_
      exact J418 k85 hk85 y3 y6 y7 y8 y9 y11 v1 v2 G v3 H locs ls hc hP hD hS (lv_sub hl [0, 1, 3, 5, 6, 7, 8, 10] rfl)
    replace hc := ite_f c73 hc
    by_cases c74 : z0 = 5
    · replace hc := ite_t c74 hc
      refine lv_tableIn (off := 287) (tgt := 486) hx hb dL_law_199 (by rw [c74]; decide) (by rw [c74]; decide) (by rw [c74]; rfl) (by decide) ?_
      exact J486 k85 hk85 y3 y6 y7 y8 y9 y10 y11 v1 v2 G v3 H locs ls hc hP hD hS (lv_sub hl [0, 1, 3, 5, 6, 7, 8, 9, 10] rfl)
    replace hc := ite_f c74 hc
    by_cases c90 : z0 = 6
    · replace hc := ite_t c90 hc
      refine lv_tableIn (off := 287) (tgt := 486) hx hb dL_law_199 (by rw [c90]; decide) (by rw [c90]; decide) (by rw [c90]; rfl) (by decide) ?_
      exact J486 k85 hk85 y3 y6 y7 y8 y9 y10 y11 v1 v2 G v3 H locs ls hc hP hD hS (lv_sub hl [0, 1, 3, 5, 6, 7, 8, 9, 10] rfl)
    replace hc := ite_f c90 hc
    by_cases c91 : z0 = 7
    · replace hc := ite_t c91 hc
      refine lv_tableIn (off := 287) (tgt := 486) hx hb dL_law_199 (by rw [c91]; decide) (by rw [c91]; decide) (by rw [c91]; rfl) (by decide) ?_
      exact J486 k85 hk85 y3 y6 y7 y8 y9 y10 y11 v1 v2 G v3 H locs ls hc hP hD hS (lv_sub hl [0, 1, 3, 5, 6, 7, 8, 9, 10] rfl)
    replace hc := ite_f c91 hc
    by_cases c92 : z0 = 8
    · replace hc := ite_t c92 hc
      refine lv_tableIn (off := 411) (tgt := 610) hx hb dL_law_199 (by rw [c92]; decide) (by rw [c92]; decide) (by rw [c92]; rfl) (by decide) ?_
      exact J610 k85 hk85 y3 y6 y7 y9 y10 v1 v2 G v3 H locs ls hc hP hD hS (lv_sub hl [0, 1, 3, 5, 6, 8, 9] rfl)
    replace hc := ite_f c92 hc
    by_cases c99 : z0 = 9
    · replace hc := ite_t c99 hc
      refine lv_tableIn (off := 473) (tgt := 672) hx hb dL_law_199 (by rw [c99]; decide) (by rw [c99]; decide) (by rw [c99]; rfl) (by decide) ?_
      exact J672 k85 hk85 y3 y6 y7 y9 y10 v1 v2 G v3 H locs ls hc hP hD hS (lv_sub hl [0, 1, 3, 5, 6, 8, 9] rfl)
    replace hc := ite_f c99 hc
    by_cases c115 : z0 = 10
    · replace hc := ite_t c115 hc
      refine lv_tableIn (off := 473) (tgt := 672) hx hb dL_law_199 (by rw [c115]; decide) (by rw [c115]; decide) (by rw [c115]; rfl) (by decide) ?_
      exact J672 k85 hk85 y3 y6 y7 y9 y10 v1 v2 G v3 H locs ls hc hP hD hS (lv_sub hl [0, 1, 3, 5, 6, 8, 9] rfl)
    replace hc := ite_f c115 hc
    by_cases c116 : z0 = 11
    · replace hc := ite_t c116 hc
      refine lv_tableIn (off := 473) (tgt := 672) hx hb dL_law_199 (by rw [c116]; decide) (by rw [c116]; decide) (by rw [c116]; rfl) (by decide) ?_
      exact J672 k85 hk85 y3 y6 y7 y9 y10 v1 v2 G v3 H locs ls hc hP hD hS (lv_sub hl [0, 1, 3, 5, 6, 8, 9] rfl)
    replace hc := ite_f c116 hc
    by_cases c117 : z0 = 12
    · replace hc := ite_t c117 hc
      refine lv_tableIn (off := 473) (tgt := 672) hx hb dL_law_199 (by rw [c117]; decide) (by rw [c117]; decide) (by rw [c117]; rfl) (by decide) ?_
      exact J672 k85 hk85 y3 y6 y7 y9 y10 v1 v2 G v3 H locs ls hc hP hD hS (lv_sub hl [0, 1, 3, 5, 6, 8, 9] rfl)
    replace hc := ite_f c117 hc
    by_cases c118 : z0 = 13
    · replace hc := ite_t c118 hc
      refine lv_tableIn (off := 473) (tgt := 672) hx hb dL_law_199 (by rw [c118]; decide) (by rw [c118]; decide) (by rw [c118]; rfl) (by decide) ?_
      exact J672 k85 hk85 y3 y6 y7 y9 y10 v1 v2 G v3 H locs ls hc hP hD hS (lv_sub hl [0, 1, 3, 5, 6, 8, 9] rfl)
    replace hc := ite_f c118 hc
    by_cases c119 : z0 = 14
    · replace hc := ite_t c119 hc
      refine lv_tableIn (off := 584) (tgt := 783) hx hb dL_law_199 (by rw [c119]; decide) (by rw [c119]; decide) (by rw [c119]; rfl) (by decide) ?_
      exact J783 k85 hk85 y3 y6 y7 y9 v1 v2 G v3 H locs ls hc hP hD hS (lv_sub hl [0, 1, 2, 3, 5, 6, 8] rfl)
    replace hc := ite_f c119 hc
    by_cases c123 : z0 = 15
    · replace hc := ite_t c123 hc
      refine lv_tableIn (off := 618) (tgt := 817) hx hb dL_law_199 (by rw [c123]; decide) (by rw [c123]; decide) (by rw [c123]; rfl) (by decide) ?_
      exact J817 k85 hk85 y3 y6 y7 y9 v1 v2 G v3 H locs ls hc hP hD hS (lv_sub hl [0, 1, 3, 5, 6, 8] rfl)
    replace hc := ite_f c123 hc
    refine lv_tableOut (tgt := 1101) hx hb dL_law_199 (sw_out16 c31 c55 c56 c65 c73 c74 c90 c91 c92 c99 c115 c116 c117 c118 c119 c123) (by decide) ?_
    exact J1101 k85 hk85 y3 y6 y7 y9 v1 v2 G v3 H locs ls hc hP hD hS (lv_sub hl [0, 1, 3, 5, 6, 8] rfl)
  have J148 : ∀ (k85 : Int32 → FV → FV → (Nat → FV) → FV → Option (Int32 × (FV × FV × (Nat → FV) × FV))) (hk85 : ∀ (y3 : Int32) (v1 : FV) (v2 : FV) (G : (Nat → FV)) (v3 : FV) (H : Heap) (locs : List Loc) (ls : Array Slot), k85 y3 v1 v2 G v3 = some (r, (v1', v2', G', v3')) → va_P D vwCl (NW cy aN v1 v2 G v3) H → va_D (fun q : Nat => s.heap.size ≤ q) (NW cy aN v1 v2 G v3) → va_S (fun q : Nat => s.heap.size ≤ q) s.heap H locs → lv_has ls 18 [(0, .ref b), (1, .ref (aN 0 0)), (2, .int 1), (3, .int y3)] → W p l e room_1 s m #[Value.ref b] below meth c H locs 600000 7302250 (lw_Z below #[Value.ref b] s) (F0 m 85 ls [])), ∀ (y3 : Int32) (y4 : Int32) (y5 : Int32) (y6 : Int32) (y7 : Int32) (z0 : Int32) (v1 : FV) (v2 : FV) (G : (Nat → FV)) (v3 : FV) (H : Heap) (locs : List Loc) (ls : Array Slot), f_L_law_J148 L xs k85 y3 y4 y5 y6 y7 z0 v1 v2 G v3 = some (r, (v1', v2', G', v3')) → va_P D vwCl (NW cy aN v1 v2 G v3) H → va_D (fun q : Nat => s.heap.size ≤ q) (NW cy aN v1 v2 G v3) → va_S (fun q : Nat => s.heap.size ≤ q) s.heap H locs → lv_has ls 18 [(0, .ref b), (1, .ref (aN 0 0)), (2, .int 1), (3, .int y3), (4, .int y4), (5, .int y5), (6, .int y6), (7, .int y7)] → W p l e room_1 s m #[Value.ref b] below meth c H locs 600000 7302250 (lw_Z below #[Value.ref b] s) (F0 m 148 ls [.int z0]) := by
    intro k85 hk85 y3 y4 y5 y6 y7 z0 v1 v2 G v3 H locs ls hc hP hD hS hl
    refine lv_istore (lv' := [(8, .int z0), (0, .ref b), (1, .ref (aN 0 0)), (2, .int 1), (3, .int y3), (4, .int y4), (5, .int y5), (6, .int y6), (7, .int y7)]) hx hb dL_law_148 hl (by decide) rfl (fun ls hl => ?_)
    refine lv_iconst (v := 1) hx hb dL_law_150 (by decide) ?_
    refine lv_iload hx hb dL_law_151 (lv_at hl 8 rfl) ?_
    refine lv_bipush (v := 90) hx hb dL_law_153 (by decide +kernel) ?_
    refine lv_irem hx hb dL_law_155 (by decide) ?_
    refine lv_iadd hx hb dL_law_156 ?_
    refine lv_istore (lv' := [(9, .int (1 + (y7 - y7 / 90 * 90))), (8, .int z0), (0, .ref b), (1, .ref (aN 0 0)), (2, .int 1), (3, .int y3), (4, .int y4), (5, .int y5), (6, .int y6), (7, .int y7)]) hx hb dL_law_157 hl (by decide) rfl (fun ls hl => ?_)
    refine lv_aload_n hx hb dL_law_159 rfl (lv_at hl 3 rfl) ?_
    refine lv_bipush (v := 10) hx hb dL_law_160 (by decide +kernel) ?_
    obtain ⟨x28, hc28, hc⟩ := b1_some hc
    refine gc_VI (n := 1) (q0 := 0) (ci := 3) (w' := NW cy aN v1 v2 G v3) hx hb hml hown hts hK hP hD hS hA hl.1 ⟨Nat.le_refl _, Nat.le_refl _⟩ (C_X3_count l D cy aN v1 v2 G v3 10 x28 hc28) gL_law_X3_count rfl (by decide +kernel) rfl ⟨by decide, by decide⟩ Jn.same rfl rfl rfl (Nat.le_of_ble_eq_true rfl) dL_law_162 (fun H locs hP hD hS => ?_)
    refine lv_istore (lv' := [(10, .int x28), (9, .int (1 + (y7 - y7 / 90 * 90))), (8, .int z0), (0, .ref b), (1, .ref (aN 0 0)), (2, .int 1), (3, .int y3), (4, .int y4), (5, .int y5), (6, .int y6), (7, .int y7)]) hx hb dL_law_165 hl (by decide) rfl (fun ls hl => ?_)
    refine lv_aload_n hx hb dL_law_167 rfl (lv_at hl 4 rfl) ?_
    refine lv_bipush (v := 6) hx hb dL_law_168 (by decide +kernel) ?_
    obtain ⟨x29, hc29, hc⟩ := b1_some hc
    refine gc_VI (n := 1) (q0 := 0) (ci := 3) (w' := NW cy aN v1 v2 G v3) hx hb hml hown hts hK hP hD hS hA hl.1 ⟨Nat.le_refl _, Nat.le_refl _⟩ (C_X3_count l D cy aN v1 v2 G v3 6 x29 hc29) gL_law_X3_count rfl (by decide +kernel) rfl ⟨by decide, by decide⟩ Jn.same rfl rfl rfl (Nat.le_of_ble_eq_true rfl) dL_law_170 (fun H locs hP hD hS => ?_)
    refine lv_istore (lv' := [(11, .int x29), (10, .int x28), (9, .int (1 + (y7 - y7 / 90 * 90))), (8, .int z0), (0, .ref b), (1, .ref (aN 0 0)), (2, .int 1), (3, .int y3), (4, .int y4), (5, .int y5), (6, .int y6), (7, .int y7)]) hx hb dL_law_173 hl (by decide) rfl (fun ls hl => ?_)
    refine lv_iconst (v := 0) hx hb dL_law_175 (by decide) ?_
    refine lv_istore (lv' := [(12, .int 0), (11, .int x29), (10, .int x28), (9, .int (1 + (y7 - y7 / 90 * 90))), (8, .int z0), (0, .ref b), (1, .ref (aN 0 0)), (2, .int 1), (3, .int y3), (4, .int y4), (5, .int y5), (6, .int y6), (7, .int y7)]) hx hb dL_law_176 hl (by decide) rfl (fun ls hl => ?_)
    refine lv_iload_n hx hb dL_law_178 rfl (lv_at hl 8 rfl) ?_
    refine lv_iconst (v := 3) hx hb dL_law_179 (by decide) ?_
    refine lv_icmp_lt (tgt := 188) hx hb dL_law_180 (by decide) (fun c30 => ?_) (fun c30 => ?_)
    · replace hc := ite_t c30 hc
      refine lv_iconst (v := 0) hx hb dL_law_188 (by decide) ?_
      refine lv_goto (tgt := 199) hx hb dL_law_189 (by decide) ?_
      exact J199 k85 hk85 y3 y5 y6 y7 z0 (1 + (y7 - y7 / 90 * 90)) x28 x29 0 v1 v2 G v3 H locs ls hc hP hD hS (lv_sub hl [5, 6, 7, 8, 10, 11, 12, 4, 3, 2, 1] rfl)
    · replace hc := ite_f c30 hc
      refine lv_iload hx hb dL_law_183 (lv_at hl 10 rfl) ?_
      refine lv_if_ne (tgt := 192) hx hb dL_law_185 (by decide) (fun c171 => ?_) (fun c171 => ?_)
      · replace hc := ite_f c171 hc
        refine lv_iload hx hb dL_law_192 (lv_at hl 9 rfl) ?_
        refine lv_bipush (v := 18) hx hb dL_law_194 (by decide +kernel) ?_
        obtain ⟨x172, hc172, hc⟩ := b1_some hc
        refine gc_SI (n := 2) (w' := NW cy aN v1 v2 G v3) hx hb hml hown hts hK hP hD hS hA hl.1 ⟨Nat.le_refl _, Nat.le_refl _⟩ (C_L_low l D cy y4 18 x172 hc172) gL_law_L_low rfl (by decide +kernel) rfl ⟨by decide, by decide⟩ Jn.none rfl (Nat.le_of_ble_eq_true rfl) dL_law_196 (fun H locs hP hD hS => ?_)
        exact J199 k85 hk85 y3 y5 y6 y7 z0 (1 + (y7 - y7 / 90 * 90)) x28 x29 x172 v1 v2 G v3 H locs ls hc hP hD hS (lv_sub hl [5, 6, 7, 8, 10, 11, 12, 4, 3, 2, 1] rfl)
      · replace hc := ite_t c171 hc
        refine lv_iconst (v := 0) hx hb dL_law_188 (by decide) ?_
        refine lv_goto (tgt := 199) hx hb dL_law_189 (by decide) ?_
        exact J199 k85 hk85 y3 y5 y6 y7 z0 (1 + (y7 - y7 / 90 * 90)) x28 x29 0 v1 v2 G v3 H locs ls hc hP hD hS (lv_sub hl [5, 6, 7, 8, 10, 11, 12, 4, 3, 2, 1] rfl)
  have L85 : ∀ (n : Nat), ∀ (y3 : Int32) (v1 : FV) (v2 : FV) (G : (Nat → FV)) (v3 : FV) (H : Heap) (locs : List Loc) (ls : Array Slot), f_L_law_L85 L xs n y3 v1 v2 G v3 = some (r, (v1', v2', G', v3')) → va_P D vwCl (NW cy aN v1 v2 G v3) H → va_D (fun q : Nat => s.heap.size ≤ q) (NW cy aN v1 v2 G v3) → va_S (fun q : Nat => s.heap.size ≤ q) s.heap H locs → lv_has ls 18 [(0, .ref b), (1, .ref (aN 0 0)), (2, .int 1), (3, .int y3)] → W p l e room_1 s m #[Value.ref b] below meth c H locs 600000 7302250 (lw_Z below #[Value.ref b] s) (F0 m 85 ls []) := by
    intro n
    induction n with
    | zero =>
      intro y3 v1 v2 G v3 H locs ls hc
      cases hc
    | succ n ih =>
      intro y3 v1 v2 G v3 H locs ls hc hP hD hS hl
      unfold f_L_law_L85 at hc
      refine lv_iload_n hx hb dL_law_85 rfl (lv_at hl 3 rfl) ?_
      refine lv_bipush (v := 30) hx hb dL_law_86 (by decide +kernel) ?_
      refine lv_icmp_ge (tgt := 1259) hx hb dL_law_88 (by decide) (fun c17 => ?_) (fun c17 => ?_)
      · replace hc := ite_t c17 hc
        exact J1259 v1 v2 G v3 H locs ls hc hP hD hS (lv_sub hl [0, 1, 2] rfl)
      · replace hc := ite_f c17 hc
        refine lv_iload_n hx hb dL_law_91 rfl (lv_at hl 2 rfl) ?_
        refine lv_if_eq (tgt := 1259) hx hb dL_law_92 (by decide) (fun c9 => absurd c9 (by decide)) (fun _ => ?_)
        refine lv_aload_n hx hb dL_law_95 rfl (lv_at hl 0 rfl) ?_
        refine lv_iload_n hx hb dL_law_96 rfl (lv_at hl 3 rfl) ?_
        obtain ⟨x22, hc22, hc⟩ := b1_some hc
        refine gc_cell (n := 2) hx hb hml hown hts hK hX hbl hbA hP hD hS hA hl.1 ⟨Nat.le_refl _, Nat.le_refl _⟩ (C_L_cell l D cy hL b xs y3 x22 hc22) gL_law_L_cell rfl (by decide +kernel) rfl ⟨by decide, by decide⟩ rfl (Nat.le_of_ble_eq_true rfl) dL_law_97 (fun H locs hP hD hS => ?_)
        refine lv_istore (lv' := [(4, .int x22), (0, .ref b), (1, .ref (aN 0 0)), (2, .int 1), (3, .int y3)]) hx hb dL_law_100 hl (by decide) rfl (fun ls hl => ?_)
        refine lv_aload_n hx hb dL_law_102 rfl (lv_at hl 2 rfl) ?_
        refine lv_iconst (v := 0) hx hb dL_law_103 (by decide) ?_
        obtain ⟨x23, hc23, hc⟩ := b1_some hc
        refine gc_VI (n := 1) (q0 := 0) (ci := 3) (w' := NW cy aN v1 v2 G v3) hx hb hml hown hts hK hP hD hS hA hl.1 ⟨Nat.le_refl _, Nat.le_refl _⟩ (C_X3_count l D cy aN v1 v2 G v3 0 x23 hc23) gL_law_X3_count rfl (by decide +kernel) rfl ⟨by decide, by decide⟩ Jn.same rfl rfl rfl (Nat.le_of_ble_eq_true rfl) dL_law_104 (fun H locs hP hD hS => ?_)
        refine lv_istore (lv' := [(5, .int x23), (4, .int x22), (0, .ref b), (1, .ref (aN 0 0)), (2, .int 1), (3, .int y3)]) hx hb dL_law_107 hl (by decide) rfl (fun ls hl => ?_)
        refine lv_iload hx hb dL_law_109 (lv_at hl 1 rfl) ?_
        refine lv_iconst (v := 4) hx hb dL_law_111 (by decide) ?_
        refine lv_ishr hx hb dL_law_112 ?_
        refine lv_sipush (v := 8192) hx hb dL_law_113 (by decide +kernel) ?_
        obtain ⟨x24, hc24, hc⟩ := b1_some hc
        refine gc_SI (n := 2) (w' := NW cy aN v1 v2 G v3) hx hb hml hown hts hK hP hD hS hA hl.1 ⟨Nat.le_refl _, Nat.le_refl _⟩ (C_L_low l D cy (x22 >>> (4 &&& 31)) 8192 x24 hc24) gL_law_L_low rfl (by decide +kernel) rfl ⟨by decide, by decide⟩ Jn.none rfl (Nat.le_of_ble_eq_true rfl) dL_law_116 (fun H locs hP hD hS => ?_)
        refine lv_istore (lv' := [(6, .int x24), (5, .int x23), (4, .int x22), (0, .ref b), (1, .ref (aN 0 0)), (2, .int 1), (3, .int y3)]) hx hb dL_law_119 hl (by decide) rfl (fun ls hl => ?_)
        refine lv_iload hx hb dL_law_121 (lv_at hl 2 rfl) ?_
        refine lv_bipush (v := 12) hx hb dL_law_123 (by decide +kernel) ?_
        refine lv_ishr hx hb dL_law_125 ?_
        refine lv_sipush (v := 8192) hx hb dL_law_126 (by decide +kernel) ?_
        obtain ⟨x25, hc25, hc⟩ := b1_some hc
        refine gc_SI (n := 2) (w' := NW cy aN v1 v2 G v3) hx hb hml hown hts hK hP hD hS hA hl.1 ⟨Nat.le_refl _, Nat.le_refl _⟩ (C_L_low l D cy (x22 >>> (12 &&& 31)) 8192 x25 hc25) gL_law_L_low rfl (by decide +kernel) rfl ⟨by decide, by decide⟩ Jn.none rfl (Nat.le_of_ble_eq_true rfl) dL_law_129 (fun H locs hP hD hS => ?_)
        refine lv_istore (lv' := [(7, .int x25), (6, .int x24), (5, .int x23), (4, .int x22), (0, .ref b), (1, .ref (aN 0 0)), (2, .int 1), (3, .int y3)]) hx hb dL_law_132 hl (by decide) rfl (fun ls hl => ?_)
        refine lv_iload hx hb dL_law_134 (lv_at hl 2 rfl) ?_
        refine lv_if_ne (tgt := 143) hx hb dL_law_136 (by decide) (fun c26 => ?_) (fun c26 => ?_)
        · replace hc := ite_f c26 hc
          refine lv_iload hx hb dL_law_143 (lv_at hl 1 rfl) ?_
          refine lv_iload hx hb dL_law_145 (lv_at hl 2 rfl) ?_
          obtain ⟨hz27, hc⟩ := nz_some hc
          refine lv_irem hx hb dL_law_147 hz27 ?_
          exact J148 (f_L_law_L85 L xs n) ih y3 x22 x23 x24 x25 (x24 - x24 / x23 * x23) v1 v2 G v3 H locs ls hc hP hD hS (lv_sub hl [4, 5, 6, 7, 3, 2, 1, 0] rfl)
        · replace hc := ite_t c26 hc
          refine lv_iconst (v := 0) hx hb dL_law_139 (by decide) ?_
          refine lv_goto (tgt := 148) hx hb dL_law_140 (by decide) ?_
          exact J148 (f_L_law_L85 L xs n) ih y3 x22 x23 x24 x25 0 v1 v2 G v3 H locs ls hc hP hD hS (lv_sub hl [4, 5, 6, 7, 3, 2, 1, 0] rfl)
  intro H locs ls hP hD hS hl
  refine lv_aload_n hx hb dL_law_8 rfl (lv_at hl 0 rfl) ?_
  obtain ⟨x1, t1, hc1, hc⟩ := b2_some hc
  refine gc_VI (n := 0) (q0 := 0) (ci := 3) (w' := NW cy aN t1.1 t1.2.1 t1.2.2.1 t1.2.2.2) hx hb hml hown hts hK hP hD hS hA hl.1 ⟨Nat.le_refl _, Nat.le_refl _⟩ (C_X3_undo l D cy aN v1 v2 G v3 x1 t1.1 t1.2.1 t1.2.2.1 t1.2.2.2 hc1) gL_law_X3_undo rfl (by decide +kernel) rfl ⟨by decide, by decide⟩ Jn.same rfl rfl rfl (Nat.le_of_ble_eq_true rfl) dL_law_9 (fun H locs hP hD hS => ?_)
  refine lv_bipush (v := (-2)) hx hb dL_law_12 (by decide +kernel) ?_
  refine lv_icmp_ne (tgt := 81) hx hb dL_law_14 (by decide) (fun c2 => ?_) (fun c2 => ?_)
  · replace hc := ite_f c2 hc
    cases hc
  · replace hc := ite_t c2 hc
    refine lv_aload_n hx hb dL_law_17 rfl (lv_at hl 0 rfl) ?_
    refine lv_bipush (v := 20) hx hb dL_law_18 (by decide +kernel) ?_
    obtain ⟨x3, hc3, hc⟩ := b1_some hc
    refine gc_VI (n := 1) (q0 := 0) (ci := 3) (w' := NW cy aN t1.1 t1.2.1 t1.2.2.1 t1.2.2.2) hx hb hml hown hts hK hP hD hS hA hl.1 ⟨Nat.le_refl _, Nat.le_refl _⟩ (C_X3_count l D cy aN t1.1 t1.2.1 t1.2.2.1 t1.2.2.2 20 x3 hc3) gL_law_X3_count rfl (by decide +kernel) rfl ⟨by decide, by decide⟩ Jn.same rfl rfl rfl (Nat.le_of_ble_eq_true rfl) dL_law_20 (fun H locs hP hD hS => ?_)
    refine lv_bipush (v := 24) hx hb dL_law_23 (by decide +kernel) ?_
    refine lv_icmp_ne (tgt := 81) hx hb dL_law_25 (by decide) (fun c4 => ?_) (fun c4 => ?_)
    · replace hc := ite_f c4 hc
      cases hc
    · replace hc := ite_t c4 hc
      refine lv_aload_n hx hb dL_law_28 rfl (lv_at hl 0 rfl) ?_
      refine lv_bipush (v := 12) hx hb dL_law_29 (by decide +kernel) ?_
      obtain ⟨x5, hc5, hc⟩ := b1_some hc
      refine gc_VI (n := 1) (q0 := 0) (ci := 3) (w' := NW cy aN t1.1 t1.2.1 t1.2.2.1 t1.2.2.2) hx hb hml hown hts hK hP hD hS hA hl.1 ⟨Nat.le_refl _, Nat.le_refl _⟩ (C_X3_count l D cy aN t1.1 t1.2.1 t1.2.2.1 t1.2.2.2 12 x5 hc5) gL_law_X3_count rfl (by decide +kernel) rfl ⟨by decide, by decide⟩ Jn.same rfl rfl rfl (Nat.le_of_ble_eq_true rfl) dL_law_31 (fun H locs hP hD hS => ?_)
      refine lv_bipush (v := 24) hx hb dL_law_34 (by decide +kernel) ?_
      refine lv_icmp_ne (tgt := 81) hx hb dL_law_36 (by decide) (fun c6 => ?_) (fun c6 => ?_)
      · replace hc := ite_f c6 hc
        cases hc
      · replace hc := ite_t c6 hc
        refine lv_aload_n hx hb dL_law_39 rfl (lv_at hl 0 rfl) ?_
        refine lv_iconst (v := 0) hx hb dL_law_40 (by decide) ?_
        obtain ⟨x7, t7, hc7, hc⟩ := b2_some hc
        refine gc_VI (n := 1) (q0 := 0) (ci := 3) (w' := NW cy aN t7.1 t7.2.1 t7.2.2.1 t7.2.2.2) hx hb hml hown hts hK hP hD hS hA hl.1 ⟨Nat.le_refl _, Nat.le_refl _⟩ (C_X3_fault l D cy aN t1.1 t1.2.1 t1.2.2.1 t1.2.2.2 0 x7 t7.1 t7.2.1 t7.2.2.1 t7.2.2.2 hc7) gL_law_X3_fault rfl (by decide +kernel) rfl ⟨by decide, by decide⟩ Jn.same rfl rfl rfl (Nat.le_of_ble_eq_true rfl) dL_law_41 (fun H locs hP hD hS => ?_)
        refine lv_bipush (v := (-4)) hx hb dL_law_44 (by decide +kernel) ?_
        refine lv_icmp_ne (tgt := 81) hx hb dL_law_46 (by decide) (fun c8 => ?_) (fun c8 => ?_)
        · replace hc := ite_f c8 hc
          cases hc
        · replace hc := ite_t c8 hc
          refine lv_aload_n hx hb dL_law_49 rfl (lv_at hl 0 rfl) ?_
          obtain ⟨x9, t9, hc9, hc⟩ := b2_some hc
          refine gc_VI (n := 0) (q0 := 0) (ci := 3) (w' := NW cy aN t9.1 t9.2.1 t9.2.2.1 t9.2.2.2) hx hb hml hown hts hK hP hD hS hA hl.1 ⟨Nat.le_refl _, Nat.le_refl _⟩ (C_X3_play l D cy aN t7.1 t7.2.1 t7.2.2.1 t7.2.2.2 x9 t9.1 t9.2.1 t9.2.2.1 t9.2.2.2 hc9) gL_law_X3_play rfl (by decide +kernel) rfl ⟨by decide, by decide⟩ Jn.same rfl rfl rfl (Nat.le_of_ble_eq_true rfl) dL_law_50 (fun H locs hP hD hS => ?_)
          refine lv_if_ne (tgt := 81) hx hb dL_law_53 (by decide) (fun c10 => ?_) (fun c10 => ?_)
          · replace hc := ite_f c10 hc
            cases hc
          · replace hc := ite_t c10 hc
            refine lv_aload_n hx hb dL_law_56 rfl (lv_at hl 0 rfl) ?_
            obtain ⟨x11, t11, hc11, hc⟩ := b2_some hc
            refine gc_VI (n := 0) (q0 := 0) (ci := 3) (w' := NW cy aN t11.1 t11.2.1 t11.2.2.1 t11.2.2.2) hx hb hml hown hts hK hP hD hS hA hl.1 ⟨Nat.le_refl _, Nat.le_refl _⟩ (C_X3_undo l D cy aN t9.1 t9.2.1 t9.2.2.1 t9.2.2.2 x11 t11.1 t11.2.1 t11.2.2.1 t11.2.2.2 hc11) gL_law_X3_undo rfl (by decide +kernel) rfl ⟨by decide, by decide⟩ Jn.same rfl rfl rfl (Nat.le_of_ble_eq_true rfl) dL_law_57 (fun H locs hP hD hS => ?_)
            refine lv_if_ne (tgt := 81) hx hb dL_law_60 (by decide) (fun c12 => ?_) (fun c12 => ?_)
            · replace hc := ite_f c12 hc
              cases hc
            · replace hc := ite_t c12 hc
              refine lv_aload_n hx hb dL_law_63 rfl (lv_at hl 0 rfl) ?_
              obtain ⟨x13, t13, hc13, hc⟩ := b2_some hc
              refine gc_VI (n := 0) (q0 := 0) (ci := 3) (w' := NW cy aN t13.1 t13.2.1 t13.2.2.1 t13.2.2.2) hx hb hml hown hts hK hP hD hS hA hl.1 ⟨Nat.le_refl _, Nat.le_refl _⟩ (C_X3_lenders l D cy aN t11.1 t11.2.1 t11.2.2.1 t11.2.2.2 x13 t13.1 t13.2.1 t13.2.2.1 t13.2.2.2 hc13) gL_law_X3_lenders rfl (by decide +kernel) rfl ⟨by decide, by decide⟩ Jn.same rfl rfl rfl (Nat.le_of_ble_eq_true rfl) dL_law_64 (fun H locs hP hD hS => ?_)
              refine lv_if_ne (tgt := 81) hx hb dL_law_67 (by decide) (fun c14 => ?_) (fun c14 => ?_)
              · replace hc := ite_f c14 hc
                cases hc
              · replace hc := ite_t c14 hc
                refine lv_aload_n hx hb dL_law_70 rfl (lv_at hl 0 rfl) ?_
                obtain ⟨x15, t15, hc15, hc⟩ := b2_some hc
                refine gc_SI (n := 1) (w' := NW cy aN t15.1 t15.2.1 t15.2.2.1 t15.2.2.2) hx hb hml hown hts hK hP hD hS hA hl.1 ⟨Nat.le_refl _, Nat.le_refl _⟩ (C_L_refused l D cy aN t13.1 t13.2.1 t13.2.2.1 t13.2.2.2 x15 t15.1 t15.2.1 t15.2.2.1 t15.2.2.2 hc15) gL_law_L_refused rfl (by decide +kernel) rfl ⟨by decide, by decide⟩ Jn.same rfl (Nat.le_of_ble_eq_true rfl) dL_law_71 (fun H locs hP hD hS => ?_)
                refine lv_if_eq (tgt := 81) hx hb dL_law_74 (by decide) (fun c16 => ?_) (fun c16 => ?_)
                · replace hc := ite_t c16 hc
                  cases hc
                · replace hc := ite_f c16 hc
                  refine lv_iconst (v := 1) hx hb dL_law_77 (by decide) ?_
                  refine lv_goto (tgt := 82) hx hb dL_law_78 (by decide) ?_
                  refine lv_istore_n (lv' := [(2, .int 1), (1, .ref (aN 0 0)), (0, .ref b)]) hx hb dL_law_82 rfl hl (by decide) rfl (fun ls hl => ?_)
                  refine lv_iconst (v := 0) hx hb dL_law_83 (by decide) ?_
                  refine lv_istore_n (lv' := [(3, .int 0), (2, .int 1), (1, .ref (aN 0 0)), (0, .ref b)]) hx hb dL_law_84 rfl hl (by decide) rfl (fun ls hl => ?_)
                  exact L85 FUEL 0 t15.1 t15.2.1 t15.2.2.1 t15.2.2.2 H locs ls hc hP hD hS (lv_sub hl [3, 2, 1, 0] rfl)
