set_option maxHeartbeats 4000000 in
set_option maxRecDepth 100000 in
theorem C_L_low (l : Launch) (D : va_G) (cy : Nat → ClassId) (p0 : Int32) (p1 : Int32) (r : Int32) (hc : f_L_low p0 p1 = some r) : ConI l yL_low wsL_low 0 0 D cy (fun (_ : Unit) => ([] : va_W)) [.int p0, .int p1] (()) (()) r := by
  refine bodyI (cc := cL_low) (maxL := 2) (ty := .int) (by decide +kernel) rfl (Nat.le_of_ble_eq_true rfl) ?_
  intro p e s m args below meth c A Q hx hb hml hts hown hK hP hD hA hS hend ls hl
  have hown : s.vm.findClass RL = some m.cls := hown
  have hP : va_P D vwCl (([] : va_W)) s.heap := hP
  have hD : va_D A (([] : va_W)) := hD
  have hl : lv_has ls 2 [(0, .int p0), (1, .int p1)] := hl
  have hend : ∀ (H : Heap) (locs : List Loc) (pc : Nat) (ls : Array Slot) (v : Int32), v = r → narrow .int (.int v) = .int v → va_P D vwCl (([] : va_W)) H → va_D A (([] : va_W)) → va_S A s.heap H locs → decode cL_low pc = .ok (.ireturn, 1) → W p l e (RM 0 0) s m args below meth c H locs 0 0 Q (F0 m pc ls [.int v]) := fun H locs pc ls v h1 h3 h4 h5 h6 h7 => hend H locs pc ls v (()) h1 rfl h3 h4 h5 h6 h7
  obtain ⟨H, hHe⟩ : ∃ H : Heap, H = s.heap := ⟨_, rfl⟩
  obtain ⟨locs, hLe⟩ : ∃ x : List Loc, x = [] := ⟨_, rfl⟩
  have hP : va_P D vwCl (([] : va_W)) H := by rw [hHe]; exact hP
  have hS : va_S A s.heap H locs := by rw [hHe, hLe]; exact hS
  have goal0 : W p l e (RM 0 0) s m args below meth c H locs 0 0 Q (F0 m 0 ls []) := by
    refine lv_iload_n hx hb dL_low_0 rfl (lv_at hl 0 rfl) ?_
    refine lv_ldc (v := 2147483647) hx hb hown (hts (.constant RL 8 2147483647) (by decide +kernel)) dL_low_1 ?_
    refine lv_iand hx hb dL_low_3 ?_
    refine lv_iload_n hx hb dL_low_4 rfl (lv_at hl 1 rfl) ?_
    obtain ⟨hz1, hc⟩ := nz_some hc
    refine lv_irem hx hb dL_low_5 hz1 ?_
    exact hend H locs _ _ _ (some_one hc) rfl hP hD hS dL_low_6
  rw [hHe, hLe] at goal0
  exact goal0
set_option maxHeartbeats 40000000 in
set_option maxRecDepth 100000 in
theorem C_L_print (l : Launch) (D : va_G) (cy : Nat → ClassId) (aN : Nat → Nat → Nat) (v1 : FV) (v2 : FV) (G : (Nat → FV)) (v3 : FV) (r : Int64) (hc : f_L_print v1 v2 G v3 = some r) : ConL l yL_print wsL_print 3 67 D cy (fun (u : FV × FV × (Nat → FV) × FV) => NW cy aN u.1 u.2.1 u.2.2.1 u.2.2.2) [.ref (aN 0 0)] ((v1, v2, G, v3)) ((v1, v2, G, v3)) r := by
  refine bodyL (cc := cL_print) (maxL := 5) (by decide +kernel) rfl (Nat.le_of_ble_eq_true rfl) ?_
  intro p e s m args below meth c A Q hx hb hml hts hown hK hP hD hA hS hend ls hl
  have hown : s.vm.findClass RL = some m.cls := hown
  have hP : va_P D vwCl (NW cy aN v1 v2 G v3) s.heap := hP
  have hD : va_D A (NW cy aN v1 v2 G v3) := hD
  have hl : lv_has ls 5 [(0, .ref (aN 0 0))] := hl
  have hend : ∀ (H : Heap) (locs : List Loc) (pc : Nat) (ls : Array Slot) (v : Int64), v = r → va_P D vwCl (NW cy aN v1 v2 G v3) H → va_D A (NW cy aN v1 v2 G v3) → va_S A s.heap H locs → decode cL_print pc = .ok (.lreturn, 1) → W p l e (RM 3 67) s m args below meth c H locs 0 0 Q (F0 m pc ls [.long v]) := fun H locs pc ls v h1 h4 h5 h6 h7 => hend H locs pc ls v ((v1, v2, G, v3)) h1 rfl h4 h5 h6 h7
  have J216 : ∀ (y1 : Int64) (H : Heap) (locs : List Loc) (ls : Array Slot), f_L_print_J216 v1 v2 G v3 y1 = some r → va_P D vwCl (NW cy aN v1 v2 G v3) H → va_D A (NW cy aN v1 v2 G v3) → va_S A s.heap H locs → lv_has ls 5 [(1, .long y1)] → W p l e (RM 3 67) s m args below meth c H locs 0 0 Q (F0 m 216 ls []) := by
    intro y1 H locs ls hc hP hD hS hl
    refine lv_lload_n hx hb dL_print_216 rfl (lv_at hl 0 rfl) ?_
    exact hend H locs _ _ _ (some_one hc) hP hD hS dL_print_217
  have L162 : ∀ (n : Nat), ∀ (y1 : Int64) (y3 : Int32) (H : Heap) (locs : List Loc) (ls : Array Slot), f_L_print_L162 v1 v2 G v3 n y1 y3 = some r → va_P D vwCl (NW cy aN v1 v2 G v3) H → va_D A (NW cy aN v1 v2 G v3) → va_S A s.heap H locs → lv_has ls 5 [(0, .ref (aN 0 0)), (1, .long y1), (3, .int y3)] → W p l e (RM 3 67) s m args below meth c H locs 0 0 Q (F0 m 162 ls []) := by
    intro n
    induction n with
    | zero =>
      intro y1 y3 H locs ls hc
      cases hc
    | succ n ih =>
      intro y1 y3 H locs ls hc hP hD hS hl
      unfold f_L_print_L162 at hc
      refine lv_iload_n hx hb dL_print_162 rfl (lv_at hl 2 rfl) ?_
      refine lv_aload_n hx hb dL_print_163 rfl (lv_at hl 0 rfl) ?_
      refine lv_bipush (v := 10) hx hb dL_print_164 (by decide +kernel) ?_
      obtain ⟨x8, hc8, hc⟩ := b1_some hc
      refine gc_VI (n := 1) (q0 := 0) (ci := 3) (w' := NW cy aN v1 v2 G v3) hx hb hml hown hts hK hP hD hS hA hl.1 ⟨Nat.le_refl _, Nat.le_refl _⟩ (C_X3_count l D cy aN v1 v2 G v3 10 x8 hc8) gL_print_X3_count rfl (by decide +kernel) rfl ⟨by decide, by decide⟩ Jn.same rfl rfl rfl (Nat.le_of_ble_eq_true rfl) dL_print_166 (fun H locs hP hD hS => ?_)
      refine lv_icmp_gt (tgt := 216) hx hb dL_print_169 (by decide) (fun c9 => ?_) (fun c9 => ?_)
      · replace hc := ite_t c9 hc
        exact J216 y1 H locs ls hc hP hD hS (lv_sub hl [1] rfl)
      · replace hc := ite_f c9 hc
        refine lv_ldc2 (v := 31) hx hb hown (hts (.constantLong RL 11 (31)) (by decide +kernel)) dL_print_172 ?_
        refine lv_lload_n hx hb dL_print_175 rfl (lv_at hl 1 rfl) ?_
        refine lv_lmul hx hb dL_print_176 ?_
        refine lv_aload_n hx hb dL_print_177 rfl (lv_at hl 0 rfl) ?_
        refine lv_iload_n hx hb dL_print_178 rfl (lv_at hl 2 rfl) ?_
        refine lv_iconst (v := 0) hx hb dL_print_179 (by decide) ?_
        obtain ⟨x10, hc10, hc⟩ := b1_some hc
        refine gc_VI (n := 2) (q0 := 0) (ci := 3) (w' := NW cy aN v1 v2 G v3) hx hb hml hown hts hK hP hD hS hA hl.1 ⟨Nat.le_refl _, Nat.le_refl _⟩ (C_X3_requestAt l D cy aN v1 v2 G v3 y3 0 x10 hc10) gL_print_X3_requestAt rfl (by decide +kernel) rfl ⟨by decide, by decide⟩ Jn.same rfl rfl rfl (Nat.le_of_ble_eq_true rfl) dL_print_180 (fun H locs hP hD hS => ?_)
        refine lv_i2l (v := Int32.toInt64 x10) hx hb dL_print_183 rfl ?_
        refine lv_ladd hx hb dL_print_184 ?_
        refine lv_ldc2 (v := 13) hx hb hown (hts (.constantLong RL 28 (13)) (by decide +kernel)) dL_print_185 ?_
        refine lv_aload_n hx hb dL_print_188 rfl (lv_at hl 0 rfl) ?_
        refine lv_iload_n hx hb dL_print_189 rfl (lv_at hl 2 rfl) ?_
        refine lv_iconst (v := 1) hx hb dL_print_190 (by decide) ?_
        obtain ⟨x11, hc11, hc⟩ := b1_some hc
        refine gc_VI (n := 2) (q0 := 0) (ci := 3) (w' := NW cy aN v1 v2 G v3) hx hb hml hown hts hK hP hD hS hA hl.1 ⟨Nat.le_refl _, Nat.le_refl _⟩ (C_X3_requestAt l D cy aN v1 v2 G v3 y3 1 x11 hc11) gL_print_X3_requestAt rfl (by decide +kernel) rfl ⟨by decide, by decide⟩ Jn.same rfl rfl rfl (Nat.le_of_ble_eq_true rfl) dL_print_191 (fun H locs hP hD hS => ?_)
        refine lv_i2l (v := Int32.toInt64 x11) hx hb dL_print_194 rfl ?_
        refine lv_lmul hx hb dL_print_195 ?_
        refine lv_ladd hx hb dL_print_196 ?_
        refine lv_ldc2 (v := 100003) hx hb hown (hts (.constantLong RL 35 (100003)) (by decide +kernel)) dL_print_197 ?_
        refine lv_aload_n hx hb dL_print_200 rfl (lv_at hl 0 rfl) ?_
        refine lv_iload_n hx hb dL_print_201 rfl (lv_at hl 2 rfl) ?_
        refine lv_iconst (v := 2) hx hb dL_print_202 (by decide) ?_
        obtain ⟨x12, hc12, hc⟩ := b1_some hc
        refine gc_VI (n := 2) (q0 := 0) (ci := 3) (w' := NW cy aN v1 v2 G v3) hx hb hml hown hts hK hP hD hS hA hl.1 ⟨Nat.le_refl _, Nat.le_refl _⟩ (C_X3_requestAt l D cy aN v1 v2 G v3 y3 2 x12 hc12) gL_print_X3_requestAt rfl (by decide +kernel) rfl ⟨by decide, by decide⟩ Jn.same rfl rfl rfl (Nat.le_of_ble_eq_true rfl) dL_print_203 (fun H locs hP hD hS => ?_)
        refine lv_i2l (v := Int32.toInt64 x12) hx hb dL_print_206 rfl ?_
        refine lv_lmul hx hb dL_print_207 ?_
        refine lv_ladd hx hb dL_print_208 ?_
        refine lv_lstore_n (lv' := [(1, .long ((((31 * y1) + (Int32.toInt64 x10)) + (13 * (Int32.toInt64 x11))) + (100003 * (Int32.toInt64 x12)))), (0, .ref (aN 0 0)), (3, .int y3)]) hx hb dL_print_209 rfl hl (by decide) rfl (fun ls hl => ?_)
        refine lv_iinc (v := y3 + 1) (lv' := [(3, .int (y3 + 1)), (1, .long ((((31 * y1) + (Int32.toInt64 x10)) + (13 * (Int32.toInt64 x11))) + (100003 * (Int32.toInt64 x12)))), (0, .ref (aN 0 0))]) hx hb dL_print_210 hl (k := 2) rfl rfl (by decide) rfl (fun ls hl => ?_)
        refine lv_goto (tgt := 162) hx hb dL_print_213 (by decide) ?_
        exact ih ((((31 * y1) + (Int32.toInt64 x10)) + (13 * (Int32.toInt64 x11))) + (100003 * (Int32.toInt64 x12))) (y3 + 1) H locs ls hc hP hD hS (lv_sub hl [2, 1, 0] rfl)
  have J160 : ∀ (y1 : Int64) (H : Heap) (locs : List Loc) (ls : Array Slot), f_L_print_J160 v1 v2 G v3 y1 = some r → va_P D vwCl (NW cy aN v1 v2 G v3) H → va_D A (NW cy aN v1 v2 G v3) → va_S A s.heap H locs → lv_has ls 5 [(0, .ref (aN 0 0)), (1, .long y1)] → W p l e (RM 3 67) s m args below meth c H locs 0 0 Q (F0 m 160 ls []) := by
    intro y1 H locs ls hc hP hD hS hl
    refine lv_iconst (v := 1) hx hb dL_print_160 (by decide) ?_
    refine lv_istore_n (lv' := [(3, .int 1), (0, .ref (aN 0 0)), (1, .long y1)]) hx hb dL_print_161 rfl hl (by decide) rfl (fun ls hl => ?_)
    exact L162 FUEL y1 1 H locs ls hc hP hD hS (lv_sub hl [1, 2, 0] rfl)
  have L107 : ∀ (n : Nat), ∀ (y1 : Int64) (y3 : Int32) (H : Heap) (locs : List Loc) (ls : Array Slot), f_L_print_L107 v1 v2 G v3 n y1 y3 = some r → va_P D vwCl (NW cy aN v1 v2 G v3) H → va_D A (NW cy aN v1 v2 G v3) → va_S A s.heap H locs → lv_has ls 5 [(0, .ref (aN 0 0)), (1, .long y1), (3, .int y3)] → W p l e (RM 3 67) s m args below meth c H locs 0 0 Q (F0 m 107 ls []) := by
    intro n
    induction n with
    | zero =>
      intro y1 y3 H locs ls hc
      cases hc
    | succ n ih =>
      intro y1 y3 H locs ls hc hP hD hS hl
      unfold f_L_print_L107 at hc
      refine lv_iload_n hx hb dL_print_107 rfl (lv_at hl 2 rfl) ?_
      refine lv_aload_n hx hb dL_print_108 rfl (lv_at hl 0 rfl) ?_
      refine lv_iconst (v := 1) hx hb dL_print_109 (by decide) ?_
      obtain ⟨x6, hc6, hc⟩ := b1_some hc
      refine gc_VI (n := 1) (q0 := 0) (ci := 3) (w' := NW cy aN v1 v2 G v3) hx hb hml hown hts hK hP hD hS hA hl.1 ⟨Nat.le_refl _, Nat.le_refl _⟩ (C_X3_count l D cy aN v1 v2 G v3 1 x6 hc6) gL_print_X3_count rfl (by decide +kernel) rfl ⟨by decide, by decide⟩ Jn.same rfl rfl rfl (Nat.le_of_ble_eq_true rfl) dL_print_110 (fun H locs hP hD hS => ?_)
      refine lv_icmp_ge (tgt := 160) hx hb dL_print_113 (by decide) (fun c7 => ?_) (fun c7 => ?_)
      · replace hc := ite_t c7 hc
        exact J160 y1 H locs ls hc hP hD hS (lv_sub hl [0, 1] rfl)
      · replace hc := ite_f c7 hc
        refine lv_ldc2 (v := 31) hx hb hown (hts (.constantLong RL 11 (31)) (by decide +kernel)) dL_print_116 ?_
        refine lv_lload_n hx hb dL_print_119 rfl (lv_at hl 1 rfl) ?_
        refine lv_lmul hx hb dL_print_120 ?_
        refine lv_aload_n hx hb dL_print_121 rfl (lv_at hl 0 rfl) ?_
        refine lv_iload_n hx hb dL_print_122 rfl (lv_at hl 2 rfl) ?_
        refine lv_iconst (v := 0) hx hb dL_print_123 (by decide) ?_
        obtain ⟨x13, hc13, hc⟩ := b1_some hc
        refine gc_VI (n := 2) (q0 := 0) (ci := 3) (w' := NW cy aN v1 v2 G v3) hx hb hml hown hts hK hP hD hS hA hl.1 ⟨Nat.le_refl _, Nat.le_refl _⟩ (C_X3_droughtOf l D cy aN v1 v2 G v3 y3 0 x13 hc13) gL_print_X3_droughtOf rfl (by decide +kernel) rfl ⟨by decide, by decide⟩ Jn.same rfl rfl rfl (Nat.le_of_ble_eq_true rfl) dL_print_124 (fun H locs hP hD hS => ?_)
        refine lv_i2l (v := Int32.toInt64 x13) hx hb dL_print_127 rfl ?_
        refine lv_ladd hx hb dL_print_128 ?_
        refine lv_ldc2 (v := 13) hx hb hown (hts (.constantLong RL 28 (13)) (by decide +kernel)) dL_print_129 ?_
        refine lv_aload_n hx hb dL_print_132 rfl (lv_at hl 0 rfl) ?_
        refine lv_iload_n hx hb dL_print_133 rfl (lv_at hl 2 rfl) ?_
        refine lv_iconst (v := 1) hx hb dL_print_134 (by decide) ?_
        obtain ⟨x14, hc14, hc⟩ := b1_some hc
        refine gc_VI (n := 2) (q0 := 0) (ci := 3) (w' := NW cy aN v1 v2 G v3) hx hb hml hown hts hK hP hD hS hA hl.1 ⟨Nat.le_refl _, Nat.le_refl _⟩ (C_X3_droughtOf l D cy aN v1 v2 G v3 y3 1 x14 hc14) gL_print_X3_droughtOf rfl (by decide +kernel) rfl ⟨by decide, by decide⟩ Jn.same rfl rfl rfl (Nat.le_of_ble_eq_true rfl) dL_print_135 (fun H locs hP hD hS => ?_)
        refine lv_i2l (v := Int32.toInt64 x14) hx hb dL_print_138 rfl ?_
        refine lv_lmul hx hb dL_print_139 ?_
        refine lv_ladd hx hb dL_print_140 ?_
        refine lv_ldc2 (v := 1000003) hx hb hown (hts (.constantLong RL 30 (1000003)) (by decide +kernel)) dL_print_141 ?_
        refine lv_aload_n hx hb dL_print_144 rfl (lv_at hl 0 rfl) ?_
        refine lv_iload_n hx hb dL_print_145 rfl (lv_at hl 2 rfl) ?_
        refine lv_iconst (v := 2) hx hb dL_print_146 (by decide) ?_
        obtain ⟨x15, hc15, hc⟩ := b1_some hc
        refine gc_VI (n := 2) (q0 := 0) (ci := 3) (w' := NW cy aN v1 v2 G v3) hx hb hml hown hts hK hP hD hS hA hl.1 ⟨Nat.le_refl _, Nat.le_refl _⟩ (C_X3_droughtOf l D cy aN v1 v2 G v3 y3 2 x15 hc15) gL_print_X3_droughtOf rfl (by decide +kernel) rfl ⟨by decide, by decide⟩ Jn.same rfl rfl rfl (Nat.le_of_ble_eq_true rfl) dL_print_147 (fun H locs hP hD hS => ?_)
        refine lv_i2l (v := Int32.toInt64 x15) hx hb dL_print_150 rfl ?_
        refine lv_lmul hx hb dL_print_151 ?_
        refine lv_ladd hx hb dL_print_152 ?_
        refine lv_lstore_n (lv' := [(1, .long ((((31 * y1) + (Int32.toInt64 x13)) + (13 * (Int32.toInt64 x14))) + (1000003 * (Int32.toInt64 x15)))), (0, .ref (aN 0 0)), (3, .int y3)]) hx hb dL_print_153 rfl hl (by decide) rfl (fun ls hl => ?_)
        refine lv_iinc (v := y3 + 1) (lv' := [(3, .int (y3 + 1)), (1, .long ((((31 * y1) + (Int32.toInt64 x13)) + (13 * (Int32.toInt64 x14))) + (1000003 * (Int32.toInt64 x15)))), (0, .ref (aN 0 0))]) hx hb dL_print_154 hl (k := 2) rfl rfl (by decide) rfl (fun ls hl => ?_)
        refine lv_goto (tgt := 107) hx hb dL_print_157 (by decide) ?_
        exact ih ((((31 * y1) + (Int32.toInt64 x13)) + (13 * (Int32.toInt64 x14))) + (1000003 * (Int32.toInt64 x15))) (y3 + 1) H locs ls hc hP hD hS (lv_sub hl [2, 1, 0] rfl)
  have J105 : ∀ (y1 : Int64) (H : Heap) (locs : List Loc) (ls : Array Slot), f_L_print_J105 v1 v2 G v3 y1 = some r → va_P D vwCl (NW cy aN v1 v2 G v3) H → va_D A (NW cy aN v1 v2 G v3) → va_S A s.heap H locs → lv_has ls 5 [(0, .ref (aN 0 0)), (1, .long y1)] → W p l e (RM 3 67) s m args below meth c H locs 0 0 Q (F0 m 105 ls []) := by
    intro y1 H locs ls hc hP hD hS hl
    refine lv_iconst (v := 0) hx hb dL_print_105 (by decide) ?_
    refine lv_istore_n (lv' := [(3, .int 0), (0, .ref (aN 0 0)), (1, .long y1)]) hx hb dL_print_106 rfl hl (by decide) rfl (fun ls hl => ?_)
    exact L107 FUEL y1 0 H locs ls hc hP hD hS (lv_sub hl [1, 2, 0] rfl)
  have L71 : ∀ (k59 : Int64 → Int32 → Option (Int64)) (hk59 : ∀ (y1 : Int64) (y3 : Int32) (H : Heap) (locs : List Loc) (ls : Array Slot), k59 y1 y3 = some r → va_P D vwCl (NW cy aN v1 v2 G v3) H → va_D A (NW cy aN v1 v2 G v3) → va_S A s.heap H locs → lv_has ls 5 [(0, .ref (aN 0 0)), (1, .long y1), (3, .int y3)] → W p l e (RM 3 67) s m args below meth c H locs 0 0 Q (F0 m 59 ls [])) (n : Nat), ∀ (y1 : Int64) (y3 : Int32) (y4 : Int32) (H : Heap) (locs : List Loc) (ls : Array Slot), f_L_print_L71 v1 v2 G v3 k59 n y1 y3 y4 = some r → va_P D vwCl (NW cy aN v1 v2 G v3) H → va_D A (NW cy aN v1 v2 G v3) → va_S A s.heap H locs → lv_has ls 5 [(0, .ref (aN 0 0)), (1, .long y1), (3, .int y3), (4, .int y4)] → W p l e (RM 3 67) s m args below meth c H locs 0 0 Q (F0 m 71 ls []) := by
    intro k59 hk59 n
    induction n with
    | zero =>
      intro y1 y3 y4 H locs ls hc
      cases hc
    | succ n ih =>
      intro y1 y3 y4 H locs ls hc hP hD hS hl
      unfold f_L_print_L71 at hc
      refine lv_iload hx hb dL_print_71 (lv_at hl 3 rfl) ?_
      refine lv_bipush (v := 14) hx hb dL_print_73 (by decide +kernel) ?_
      refine lv_icmp_ge (tgt := 99) hx hb dL_print_75 (by decide) (fun c16 => ?_) (fun c16 => ?_)
      · replace hc := ite_t c16 hc
        refine lv_iinc (v := y3 + 1) (lv' := [(3, .int (y3 + 1)), (0, .ref (aN 0 0)), (1, .long y1), (4, .int y4)]) hx hb dL_print_99 hl (k := 2) rfl rfl (by decide) rfl (fun ls hl => ?_)
        refine lv_goto (tgt := 59) hx hb dL_print_102 (by decide) ?_
        exact hk59 y1 (y3 + 1) H locs ls hc hP hD hS (lv_sub hl [1, 2, 0] rfl)
      · replace hc := ite_f c16 hc
        refine lv_ldc2 (v := 31) hx hb hown (hts (.constantLong RL 11 (31)) (by decide +kernel)) dL_print_78 ?_
        refine lv_lload_n hx hb dL_print_81 rfl (lv_at hl 1 rfl) ?_
        refine lv_lmul hx hb dL_print_82 ?_
        refine lv_aload_n hx hb dL_print_83 rfl (lv_at hl 0 rfl) ?_
        refine lv_iload_n hx hb dL_print_84 rfl (lv_at hl 2 rfl) ?_
        refine lv_iload hx hb dL_print_85 (lv_at hl 3 rfl) ?_
        obtain ⟨x17, hc17, hc⟩ := b1_some hc
        refine gc_VI (n := 2) (q0 := 0) (ci := 3) (w' := NW cy aN v1 v2 G v3) hx hb hml hown hts hK hP hD hS hA hl.1 ⟨Nat.le_refl _, Nat.le_refl _⟩ (C_X3_wellOf l D cy aN v1 v2 G v3 y3 y4 x17 hc17) gL_print_X3_wellOf rfl (by decide +kernel) rfl ⟨by decide, by decide⟩ Jn.same rfl rfl rfl (Nat.le_of_ble_eq_true rfl) dL_print_87 (fun H locs hP hD hS => ?_)
        refine lv_i2l (v := Int32.toInt64 x17) hx hb dL_print_90 rfl ?_
        refine lv_ladd hx hb dL_print_91 ?_
        refine lv_lstore_n (lv' := [(1, .long ((31 * y1) + (Int32.toInt64 x17))), (0, .ref (aN 0 0)), (3, .int y3), (4, .int y4)]) hx hb dL_print_92 rfl hl (by decide) rfl (fun ls hl => ?_)
        refine lv_iinc (v := y4 + 1) (lv' := [(4, .int (y4 + 1)), (1, .long ((31 * y1) + (Int32.toInt64 x17))), (0, .ref (aN 0 0)), (3, .int y3)]) hx hb dL_print_93 hl (k := 3) rfl rfl (by decide) rfl (fun ls hl => ?_)
        refine lv_goto (tgt := 71) hx hb dL_print_96 (by decide) ?_
        exact ih ((31 * y1) + (Int32.toInt64 x17)) y3 (y4 + 1) H locs ls hc hP hD hS (lv_sub hl [2, 1, 3, 0] rfl)
  have L59 : ∀ (n : Nat), ∀ (y1 : Int64) (y3 : Int32) (H : Heap) (locs : List Loc) (ls : Array Slot), f_L_print_L59 v1 v2 G v3 n y1 y3 = some r → va_P D vwCl (NW cy aN v1 v2 G v3) H → va_D A (NW cy aN v1 v2 G v3) → va_S A s.heap H locs → lv_has ls 5 [(0, .ref (aN 0 0)), (1, .long y1), (3, .int y3)] → W p l e (RM 3 67) s m args below meth c H locs 0 0 Q (F0 m 59 ls []) := by
    intro n
    induction n with
    | zero =>
      intro y1 y3 H locs ls hc
      cases hc
    | succ n ih =>
      intro y1 y3 H locs ls hc hP hD hS hl
      unfold f_L_print_L59 at hc
      refine lv_iload_n hx hb dL_print_59 rfl (lv_at hl 2 rfl) ?_
      refine lv_aload_n hx hb dL_print_60 rfl (lv_at hl 0 rfl) ?_
      refine lv_iconst (v := 0) hx hb dL_print_61 (by decide) ?_
      obtain ⟨x4, hc4, hc⟩ := b1_some hc
      refine gc_VI (n := 1) (q0 := 0) (ci := 3) (w' := NW cy aN v1 v2 G v3) hx hb hml hown hts hK hP hD hS hA hl.1 ⟨Nat.le_refl _, Nat.le_refl _⟩ (C_X3_count l D cy aN v1 v2 G v3 0 x4 hc4) gL_print_X3_count rfl (by decide +kernel) rfl ⟨by decide, by decide⟩ Jn.same rfl rfl rfl (Nat.le_of_ble_eq_true rfl) dL_print_62 (fun H locs hP hD hS => ?_)
      refine lv_icmp_ge (tgt := 105) hx hb dL_print_65 (by decide) (fun c5 => ?_) (fun c5 => ?_)
      · replace hc := ite_t c5 hc
        exact J105 y1 H locs ls hc hP hD hS (lv_sub hl [0, 1] rfl)
      · replace hc := ite_f c5 hc
        refine lv_iconst (v := 0) hx hb dL_print_68 (by decide) ?_
        refine lv_istore (lv' := [(4, .int 0), (0, .ref (aN 0 0)), (1, .long y1), (3, .int y3)]) hx hb dL_print_69 hl (by decide) rfl (fun ls hl => ?_)
        exact L71 (f_L_print_L59 v1 v2 G v3 n) ih FUEL y1 y3 0 H locs ls hc hP hD hS (lv_sub hl [1, 2, 3, 0] rfl)
  have J31 : ∀ (y1 : Int64) (H : Heap) (locs : List Loc) (ls : Array Slot), f_L_print_J31 v1 v2 G v3 y1 = some r → va_P D vwCl (NW cy aN v1 v2 G v3) H → va_D A (NW cy aN v1 v2 G v3) → va_S A s.heap H locs → lv_has ls 5 [(0, .ref (aN 0 0)), (1, .long y1)] → W p l e (RM 3 67) s m args below meth c H locs 0 0 Q (F0 m 31 ls []) := by
    intro y1 H locs ls hc hP hD hS hl
    refine lv_ldc2 (v := 31) hx hb hown (hts (.constantLong RL 11 (31)) (by decide +kernel)) dL_print_31 ?_
    refine lv_lload_n hx hb dL_print_34 rfl (lv_at hl 1 rfl) ?_
    refine lv_lmul hx hb dL_print_35 ?_
    refine lv_aload_n hx hb dL_print_36 rfl (lv_at hl 0 rfl) ?_
    refine lv_bipush (v := 20) hx hb dL_print_37 (by decide +kernel) ?_
    obtain ⟨x2, hc2, hc⟩ := b1_some hc
    refine gc_VI (n := 1) (q0 := 0) (ci := 3) (w' := NW cy aN v1 v2 G v3) hx hb hml hown hts hK hP hD hS hA hl.1 ⟨Nat.le_refl _, Nat.le_refl _⟩ (C_X3_count l D cy aN v1 v2 G v3 20 x2 hc2) gL_print_X3_count rfl (by decide +kernel) rfl ⟨by decide, by decide⟩ Jn.same rfl rfl rfl (Nat.le_of_ble_eq_true rfl) dL_print_39 (fun H locs hP hD hS => ?_)
    refine lv_i2l (v := Int32.toInt64 x2) hx hb dL_print_42 rfl ?_
    refine lv_ladd hx hb dL_print_43 ?_
    refine lv_ldc2 (v := 1009) hx hb hown (hts (.constantLong RL 19 (1009)) (by decide +kernel)) dL_print_44 ?_
    refine lv_aload_n hx hb dL_print_47 rfl (lv_at hl 0 rfl) ?_
    refine lv_bipush (v := 21) hx hb dL_print_48 (by decide +kernel) ?_
    obtain ⟨x3, hc3, hc⟩ := b1_some hc
    refine gc_VI (n := 1) (q0 := 0) (ci := 3) (w' := NW cy aN v1 v2 G v3) hx hb hml hown hts hK hP hD hS hA hl.1 ⟨Nat.le_refl _, Nat.le_refl _⟩ (C_X3_count l D cy aN v1 v2 G v3 21 x3 hc3) gL_print_X3_count rfl (by decide +kernel) rfl ⟨by decide, by decide⟩ Jn.same rfl rfl rfl (Nat.le_of_ble_eq_true rfl) dL_print_50 (fun H locs hP hD hS => ?_)
    refine lv_i2l (v := Int32.toInt64 x3) hx hb dL_print_53 rfl ?_
    refine lv_lmul hx hb dL_print_54 ?_
    refine lv_ladd hx hb dL_print_55 ?_
    refine lv_lstore_n (lv' := [(1, .long (((31 * y1) + (Int32.toInt64 x2)) + (1009 * (Int32.toInt64 x3)))), (0, .ref (aN 0 0))]) hx hb dL_print_56 rfl hl (by decide) rfl (fun ls hl => ?_)
    refine lv_iconst (v := 0) hx hb dL_print_57 (by decide) ?_
    refine lv_istore_n (lv' := [(3, .int 0), (1, .long (((31 * y1) + (Int32.toInt64 x2)) + (1009 * (Int32.toInt64 x3)))), (0, .ref (aN 0 0))]) hx hb dL_print_58 rfl hl (by decide) rfl (fun ls hl => ?_)
    exact L59 FUEL (((31 * y1) + (Int32.toInt64 x2)) + (1009 * (Int32.toInt64 x3))) 0 H locs ls hc hP hD hS (lv_sub hl [2, 1, 0] rfl)
  have L6 : ∀ (n : Nat), ∀ (y1 : Int64) (y3 : Int32) (H : Heap) (locs : List Loc) (ls : Array Slot), f_L_print_L6 v1 v2 G v3 n y1 y3 = some r → va_P D vwCl (NW cy aN v1 v2 G v3) H → va_D A (NW cy aN v1 v2 G v3) → va_S A s.heap H locs → lv_has ls 5 [(0, .ref (aN 0 0)), (1, .long y1), (3, .int y3)] → W p l e (RM 3 67) s m args below meth c H locs 0 0 Q (F0 m 6 ls []) := by
    intro n
    induction n with
    | zero =>
      intro y1 y3 H locs ls hc
      cases hc
    | succ n ih =>
      intro y1 y3 H locs ls hc hP hD hS hl
      unfold f_L_print_L6 at hc
      refine lv_iload_n hx hb dL_print_6 rfl (lv_at hl 2 rfl) ?_
      refine lv_bipush (v := 13) hx hb dL_print_7 (by decide +kernel) ?_
      refine lv_icmp_ge (tgt := 31) hx hb dL_print_9 (by decide) (fun c1 => ?_) (fun c1 => ?_)
      · replace hc := ite_t c1 hc
        exact J31 y1 H locs ls hc hP hD hS (lv_sub hl [0, 1] rfl)
      · replace hc := ite_f c1 hc
        refine lv_ldc2 (v := 31) hx hb hown (hts (.constantLong RL 11 (31)) (by decide +kernel)) dL_print_12 ?_
        refine lv_lload_n hx hb dL_print_15 rfl (lv_at hl 1 rfl) ?_
        refine lv_lmul hx hb dL_print_16 ?_
        refine lv_aload_n hx hb dL_print_17 rfl (lv_at hl 0 rfl) ?_
        refine lv_iload_n hx hb dL_print_18 rfl (lv_at hl 2 rfl) ?_
        obtain ⟨x18, hc18, hc⟩ := b1_some hc
        refine gc_VI (n := 1) (q0 := 0) (ci := 3) (w' := NW cy aN v1 v2 G v3) hx hb hml hown hts hK hP hD hS hA hl.1 ⟨Nat.le_refl _, Nat.le_refl _⟩ (C_X3_count l D cy aN v1 v2 G v3 y3 x18 hc18) gL_print_X3_count rfl (by decide +kernel) rfl ⟨by decide, by decide⟩ Jn.same rfl rfl rfl (Nat.le_of_ble_eq_true rfl) dL_print_19 (fun H locs hP hD hS => ?_)
        refine lv_i2l (v := Int32.toInt64 x18) hx hb dL_print_22 rfl ?_
        refine lv_ladd hx hb dL_print_23 ?_
        refine lv_lstore_n (lv' := [(1, .long ((31 * y1) + (Int32.toInt64 x18))), (0, .ref (aN 0 0)), (3, .int y3)]) hx hb dL_print_24 rfl hl (by decide) rfl (fun ls hl => ?_)
        refine lv_iinc (v := y3 + 1) (lv' := [(3, .int (y3 + 1)), (1, .long ((31 * y1) + (Int32.toInt64 x18))), (0, .ref (aN 0 0))]) hx hb dL_print_25 hl (k := 2) rfl rfl (by decide) rfl (fun ls hl => ?_)
        refine lv_goto (tgt := 6) hx hb dL_print_28 (by decide) ?_
        exact ih ((31 * y1) + (Int32.toInt64 x18)) (y3 + 1) H locs ls hc hP hD hS (lv_sub hl [2, 1, 0] rfl)
  obtain ⟨H, hHe⟩ : ∃ H : Heap, H = s.heap := ⟨_, rfl⟩
  obtain ⟨locs, hLe⟩ : ∃ x : List Loc, x = [] := ⟨_, rfl⟩
  have hP : va_P D vwCl (NW cy aN v1 v2 G v3) H := by rw [hHe]; exact hP
  have hS : va_S A s.heap H locs := by rw [hHe, hLe]; exact hS
  have goal0 : W p l e (RM 3 67) s m args below meth c H locs 0 0 Q (F0 m 0 ls []) := by
    refine lv_ldc2 (v := 7) hx hb hown (hts (.constantLong RL 9 (7)) (by decide +kernel)) dL_print_0 ?_
    refine lv_lstore_n (lv' := [(1, .long 7), (0, .ref (aN 0 0))]) hx hb dL_print_3 rfl hl (by decide) rfl (fun ls hl => ?_)
    refine lv_iconst (v := 0) hx hb dL_print_4 (by decide) ?_
    refine lv_istore_n (lv' := [(3, .int 0), (1, .long 7), (0, .ref (aN 0 0))]) hx hb dL_print_5 rfl hl (by decide) rfl (fun ls hl => ?_)
    exact L6 FUEL 7 0 H locs ls hc hP hD hS (lv_sub hl [2, 1, 0] rfl)
  rw [hHe, hLe] at goal0
  exact goal0
