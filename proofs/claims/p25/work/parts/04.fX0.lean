/-! Arrays.fill of a row of ints -/
theorem fillF_0 (f : Nat → Int32) (x : Int32) : fillF 0 f x = f := rfl
theorem fillF_s (n : Nat) (f : Nat → Int32) (x : Int32) : upd (fillF n f x) n x = fillF (n + 1) f x := by
  funext j
  unfold upd fillF
  by_cases h : j = n
  · subst h
    rw [if_pos rfl, if_pos (Nat.lt_succ_self _)]
  · rw [if_neg h]
    by_cases h2 : j < n
    · rw [if_pos h2, if_pos (by omega)]
    · rw [if_neg h2, if_neg (by omega)]
abbrev IAW (cy : Nat → ClassId) (b n : Nat) (g : Nat → Int32) : va_W := [(b, .inl (cy 0, n, .inl g))]
set_option maxHeartbeats 4000000 in
set_option maxRecDepth 100000 in
theorem C_fill (l : Launch) (D : va_G) (cy : Nat → ClassId) (b n : Nat) (f : Nat → Int32) (x : Int32) (hn : n < 2147483648) : ConV l yJ7_fill_53178 wsJ7_fill_53178 0 0 D cy (IAW cy b n) [.ref b, .int x] f (fillF n f x) := by
  refine bodyV (cc := cJ7_fill_53178) (maxL := 4) (by decide +kernel) rfl (Nat.le_of_ble_eq_true rfl) ?_
  intro p e s m args below meth c A Q hx hb hml hts hown hK hP hD hA hS hend ls hl
  have hP : va_P D vwCl (IAW cy b n f) s.heap := hP
  have hD : va_D A (IAW cy b n f) := hD
  have hl : lv_has ls 4 [(0, .ref b), (1, .int x)] := hl
  have L5 : ∀ (k i : Nat), i ≤ n → n < i + k → ∀ (H : Heap) (locs : List Loc) (ls : Array Slot), va_P D vwCl (IAW cy b n (fillF i f x)) H → va_D A (IAW cy b n (fillF i f x)) → va_S A s.heap H locs → lv_has ls 4 [(0, .ref b), (1, .int x), (2, .int (nI i)), (3, .int (nI n))] → W p l e (RM 0 0) s m args below meth c H locs 0 0 Q (F0 m 5 ls []) := by
    intro k
    induction k with
    | zero =>
      intro i h1 h2
      exact absurd h2 (by omega)
    | succ k ih =>
      intro i h1 h2 H locs ls hP hD hS hl
      refine lv_iload_n hx hb dJ7_fill_53178_5 rfl (lv_at hl 2 rfl) ?_
      refine lv_iload_n hx hb dJ7_fill_53178_6 rfl (lv_at hl 3 rfl) ?_
      refine lv_icmp_ge (tgt := 20) hx hb dJ7_fill_53178_7 (by decide) (fun c1 => ?_) (fun c1 => ?_)
      · have hi : i = n := by
          rcases Nat.lt_or_ge i n with q | q
          · exact absurd c1 (nI_ge q (by omega))
          · omega
        subst hi
        exact hend H locs _ _ _ rfl hP hD hS dJ7_fill_53178_20
      · have hi : i < n := by
          rcases Nat.lt_or_ge i n with q | q
          · exact q
          · exact absurd (nI_le q (by omega)) c1
        refine lv_aload_n hx hb dJ7_fill_53178_10 rfl (lv_at hl 0 rfl) ?_
        refine lv_iload_n hx hb dJ7_fill_53178_11 rfl (lv_at hl 2 rfl) ?_
        refine lv_iload_n hx hb dJ7_fill_53178_12 rfl (lv_at hl 1 rfl) ?_
        refine g_iast (w' := IAW cy b n (fillF (i + 1) f x)) hx hb hK hP hD hS 0 rfl (vp_in_nI hi (by omega)) (by rw [nI_clamp (by omega), fillF_s]; rfl) dJ7_fill_53178_13 (fun H locs hP hD hS => ?_)
        refine lv_iinc (v := nI (i + 1)) (lv' := [(2, .int (nI (i + 1))), (0, .ref b), (1, .int x), (3, .int (nI n))]) hx hb dJ7_fill_53178_14 hl (k := 2) rfl (nI_1 i) (by decide) rfl (fun ls hl => ?_)
        refine lv_goto (tgt := 5) hx hb dJ7_fill_53178_17 (by decide) ?_
        exact ih (i + 1) hi (by omega) H locs ls hP hD hS (lv_sub hl [1, 2, 0, 3] rfl)
  refine lv_iconst (v := 0) hx hb dJ7_fill_53178_0 (by decide) ?_
  refine lv_istore_n (lv' := [(2, .int 0), (0, .ref b), (1, .int x)]) hx hb dJ7_fill_53178_1 rfl hl (by decide) rfl (fun ls hl => ?_)
  refine lv_aload_n hx hb dJ7_fill_53178_2 rfl (lv_at hl 1 rfl) ?_
  refine va_alen (v := nI n) hx hb hK.1 hP 0 0 rfl rfl rfl dJ7_fill_53178_3 ?_
  refine lv_istore_n (lv' := [(3, .int (nI n)), (2, .int 0), (0, .ref b), (1, .int x)]) hx hb dJ7_fill_53178_4 rfl hl (by decide) rfl (fun ls hl => ?_)
  exact L5 (n + 1) 0 (by omega) (by omega) _ _ ls hP hD hS (lv_sub hl [2, 3, 1, 0] rfl)
theorem J_fill {D : va_G} {A : Nat → Prop} {cy : Nat → ClassId} {a : Nat → Nat} {V : FV} {x : Int32} : Jn D A (FW cy a V) (IAW cy (a 5) 12 (V 5)) (IAW cy (a 5) 12 (fillF 12 (V 5) x)) (FW cy a (fillV V 5 12 x)) := by
  have h : ∀ U : FV, (FW cy a U).Perm (IAW cy (a 5) 12 (U 5) ++ ((FW cy a U).take 5 ++ (FW cy a U).drop 6)) := fun U => List.perm_append_comm_assoc ((FW cy a U).take 5) (IAW cy (a 5) 12 (U 5)) ((FW cy a U).drop 6)
  exact Jn.perm (h V) (h (fillV V 5 12 x))
noncomputable def f_X0_isWell (V : FV) (p1 : Int32) : Option (Int32) := (if p1 < 0 then some 0 else (if (V 0 0) ≤ p1 then some 0 else some 1))
noncomputable def f_X0_isPlace (V : FV) (p1 : Int32) : Option (Int32) := (if p1 < 1 then some 0 else (if (V 0 2) < p1 then some 0 else some 1))
noncomputable def f_X0_sumOf_L4 (V : FV) : Nat → Int32 → Int32 → Int32 → Option (Int32)
  | 0 => fun _ _ _ => none
  | n + 1 => fun y1 y2 y3 => (if (V 0 0) ≤ y3 then some y2 else ((ix 13 y1).bind fun j2 => ((rd 12 (V (6 + j2)) y3).bind fun x3 => (f_X0_sumOf_L4 V n y1 (y2 + x3) (y3 + 1)))))
noncomputable def f_X0_sumOf (V : FV) (p1 : Int32) : Option (Int32) := (f_X0_sumOf_L4 V FUEL p1 0 0)
noncomputable def f_X0_timeOfDay (V : FV) : Option (Int32) := (if (V 4 0) ≤ 0 then some 0 else ((nz (V 4 0)).bind fun _ => some ((V 0 3) - (V 0 3) / (V 4 0) * (V 4 0))))
noncomputable def f_X0_wellAbove_L20 (V : FV) : Nat → Int32 → Int32 → Int32 → Int32 → Int32 → Option (Int32)
  | 0 => fun _ _ _ _ _ => none
  | n + 1 => fun y1 y2 y3 y4 y5 => (if y3 ≤ y5 then some y4 else ((f_X0_isWell V y4).bind fun x4 => (if x4 = 0 then some y4 else ((rd 12 (V 6) y4).bind fun x6 => (f_X0_wellAbove_L20 V n y1 y2 y3 x6 (y5 + 1))))))
noncomputable def f_X0_wellAbove (V : FV) (p1 : Int32) (p2 : Int32) : Option (Int32) := (lt1 (jmin p2 12) fun x1 => ((rd 12 (V 6) p1).bind fun x2 => (f_X0_wellAbove_L20 V FUEL p1 p2 x1 x2 0)))
noncomputable def f_X0_dryWells_L4 (V : FV) : Nat → Int32 → Int32 → Int32 → Option (Int32)
  | 0 => fun _ _ _ => none
  | n + 1 => fun y1 y2 y3 => (if (V 0 1) ≤ y3 then some y2 else ((rd 20 (V 20) y3).bind fun x2 => (if y1 < x2 then (f_X0_dryWells_L4 V n y1 y2 (y3 + 1)) else ((rd 20 (V 21) y3).bind fun x4 => (if x4 < y1 then (f_X0_dryWells_L4 V n y1 y2 (y3 + 1)) else ((rd 20 (V 19) y3).bind fun x6 => (f_X0_dryWells_L4 V n y1 (y2 ||| (1 <<< (x6 &&& 31))) (y3 + 1))))))))
noncomputable def f_X0_dryWells (V : FV) (p1 : Int32) : Option (Int32) := (f_X0_dryWells_L4 V FUEL p1 0 0)
noncomputable def f_X0_isDry (V : FV) (p1 : Int32) (p2 : Int32) : Option (Int32) := ((f_X0_dryWells V p2).bind fun x1 => (if ((x1 >>> (p1 &&& 31)) &&& 1) = 1 then some 1 else some 0))
noncomputable def f_X0_roomIn (V : FV) (p1 : Int32) : Option (Int32) := ((rd 12 (V 7) p1).bind fun x1 => ((rd 12 (V 10) p1).bind fun x2 => some (x1 - x2)))
noncomputable def f_X0_addWell (V : FV) (p1 : Int32) (p2 : Int32) (p3 : Int32) (p4 : Int32) : Option (Int32 × FV) := (if (V 0 0) = 0 then (if p1 = ((-1)) then (if p2 < 1 then some ((-1), V) else (if 1000 < p2 then some ((-1), V) else (if p3 < 0 then some ((-1), V) else (if 100 < p3 then some ((-1), V) else (if p4 < 0 then some ((-1), V) else (if p4 ≤ 1000 then (if (V 0 0) < 12 then ((wr 12 V 6 (V 0 0) p1).bind fun V29 => ((wr 12 V29 7 (V29 0 0) p2).bind fun V30 => ((wr 12 V30 8 (V30 0 0) p3).bind fun V31 => ((wr 12 V31 9 (V31 0 0) p4).bind fun V32 => ((f_X0_isWell V32 p1).bind fun x33 => (if x33 = 0 then (lt1 (st V32 0 0 ((V32 0 0) + 1)) fun V35 => some (V32 0 0, V35)) else ((rd 12 (V32 18) p1).bind fun x36 => ((wr 12 V32 18 p1 (x36 + 1)).bind fun V37 => (lt1 (st V37 0 0 ((V37 0 0) + 1)) fun V38 => some (V37 0 0, V38)))))))))) else some ((-3), V)) else some ((-1), V))))))) else some ((-1), V)) else ((f_X0_isWell V p1).bind fun x2 => (if x2 = 0 then some ((-1), V) else (if p2 < 1 then some ((-1), V) else (if 1000 < p2 then some ((-1), V) else (if p3 < 0 then some ((-1), V) else (if 100 < p3 then some ((-1), V) else (if p4 < 0 then some ((-1), V) else (if p4 ≤ 1000 then (if (V 0 0) < 12 then ((wr 12 V 6 (V 0 0) p1).bind fun V11 => ((wr 12 V11 7 (V11 0 0) p2).bind fun V12 => ((wr 12 V12 8 (V12 0 0) p3).bind fun V13 => ((wr 12 V13 9 (V13 0 0) p4).bind fun V14 => ((f_X0_isWell V14 p1).bind fun x15 => (if x15 = 0 then (lt1 (st V14 0 0 ((V14 0 0) + 1)) fun V17 => some (V14 0 0, V17)) else ((rd 12 (V14 18) p1).bind fun x18 => ((wr 12 V14 18 p1 (x18 + 1)).bind fun V19 => (lt1 (st V19 0 0 ((V19 0 0) + 1)) fun V20 => some (V19 0 0, V20)))))))))) else some ((-3), V)) else some ((-1), V))))))))))
noncomputable def f_X0_addDrought (V : FV) (p1 : Int32) (p2 : Int32) (p3 : Int32) : Option (Int32 × FV) := ((f_X0_isWell V p1).bind fun x1 => (if x1 = 0 then some ((-1), V) else (if p2 ≤ (V 0 3) then some ((-1), V) else (if 60000 < p2 then some ((-1), V) else (if p3 < p2 then some ((-1), V) else (if p3 ≤ 60000 then (if (V 0 1) < 20 then ((wr 20 V 19 (V 0 1) p1).bind fun V8 => ((wr 20 V8 20 (V8 0 1) p2).bind fun V9 => ((wr 20 V9 21 (V9 0 1) p3).bind fun V10 => (lt1 (st V10 0 1 ((V10 0 1) + 1)) fun V11 => some (V10 0 1, V11))))) else some ((-3), V)) else some ((-1), V)))))))
noncomputable def f_X0_shareOut_L16 : Nat → Int32 → Int32 → Int32 → Int32 → Int32 → FV → Option (Int32 × FV)
  | 0 => fun _ _ _ _ _ _ => none
  | n + 1 => fun y1 y2 y3 y4 y5 V => (if 12 ≤ y5 then some (y2 - y3, V) else ((f_X0_isWell V y4).bind fun x3 => (if x3 = 0 then some (y2 - y3, V) else ((rd 12 (V 10) y4).bind fun x5 => (if y4 = y1 then (lt1 (jmin y3 x5) fun x13 => ((wr 12 V 5 y4 x13).bind fun V14 => ((rd 12 (V14 5) y4).bind fun x15 => ((rd 12 (V14 6) y4).bind fun x16 => (f_X0_shareOut_L16 n y1 y2 (y3 - x15) x16 (y5 + 1) V14))))) else ((rd 12 (V 9) y4).bind fun x7 => (lt1 (jmin x5 x7) fun x8 => (lt1 (jmin y3 x8) fun x9 => ((wr 12 V 5 y4 x9).bind fun V10 => ((rd 12 (V10 5) y4).bind fun x11 => ((rd 12 (V10 6) y4).bind fun x12 => (f_X0_shareOut_L16 n y1 y2 (y3 - x11) x12 (y5 + 1) V10))))))))))))
noncomputable def f_X0_shareOut (V : FV) (p1 : Int32) (p2 : Int32) : Option (Int32 × FV) := (lt1 (fillV V 5 12 0) fun V1 => (f_X0_shareOut_L16 FUEL p1 p2 p2 p1 0 V1))
noncomputable def f_X0_pourShares_L4 : Nat → Int32 → Int32 → Int32 → FV → Option (Int32 × FV)
  | 0 => fun _ _ _ _ => none
  | n + 1 => fun y1 y2 y3 V => (if (V 0 0) ≤ y3 then some (y2, V) else ((rd 12 (V 5) y3).bind fun x2 => ((rd 12 (V 10) y3).bind fun x3 => ((wr 12 V 10 y3 (x3 - x2)).bind fun V4 => (if y3 = y1 then ((rd 12 (V4 14) y3).bind fun x8 => ((wr 12 V4 14 y3 (x8 + x2)).bind fun V9 => (f_X0_pourShares_L4 n y1 y2 (y3 + 1) V9))) else ((rd 12 (V4 15) y3).bind fun x6 => ((wr 12 V4 15 y3 (x6 + x2)).bind fun V7 => (f_X0_pourShares_L4 n y1 (y2 + x2) (y3 + 1) V7))))))))
noncomputable def f_X0_pourShares (V : FV) (p1 : Int32) : Option (Int32 × FV) := (f_X0_pourShares_L4 FUEL p1 0 0 V)
noncomputable def f_X3_areBuckets (p0 : Int32) : Option (Int32) := (if p0 < 1 then some 0 else (if 999 < p0 then some 0 else some 1))
noncomputable def f_X0_takeDraw (V : FV) (p1 : Int32) (p2 : Int32) : Option (Int32 × FV) := ((f_X0_isWell V p1).bind fun x1 => (if x1 = 0 then some ((-1), V) else ((f_X3_areBuckets p2).bind fun x3 => (if x3 = 0 then some ((-1), V) else (b2 (f_X0_shareOut V p1 p2) fun x5 V5 => (if x5 = p2 then (b2 (f_X0_pourShares V5 p1) fun x7 V7 => some (x7, V7)) else some ((-2), V5)))))))
noncomputable def f_X0_takeRequest (V : FV) (p1 : Int32) (p2 : Int32) : Option (Int32 × FV) := ((f_X0_isWell V p1).bind fun x1 => (if x1 = 0 then some ((-1), V) else ((f_X3_areBuckets p2).bind fun x3 => (if x3 = 0 then some ((-1), V) else (if (V 0 2) = 0 then (b2 (f_X0_shareOut V p1 p2) fun x11 V11 => (if x11 = p2 then (b2 (f_X0_pourShares V11 p1) fun x18 V18 => some (0, V18)) else (if (V11 0 2) < 8 then ((wr 8 V11 22 (V11 0 2) p1).bind fun V14 => ((wr 8 V14 23 (V14 0 2) p2).bind fun V15 => ((wr 8 V15 24 (V15 0 2) (V15 0 3)).bind fun V16 => (lt1 (st V16 0 2 ((V16 0 2) + 1)) fun V17 => some (V17 0 2, V17))))) else some ((-3), V11)))) else (if (V 0 2) < 8 then ((wr 8 V 22 (V 0 2) p1).bind fun V7 => ((wr 8 V7 23 (V7 0 2) p2).bind fun V8 => ((wr 8 V8 24 (V8 0 2) (V8 0 3)).bind fun V9 => (lt1 (st V9 0 2 ((V9 0 2) + 1)) fun V10 => some (V10 0 2, V10))))) else some ((-3), V)))))))
noncomputable def f_X0_moveRequest_L2 : Nat → Int32 → Int32 → Int32 → FV → Option (FV)
  | 0 => fun _ _ _ _ => none
  | n + 1 => fun y1 y2 y3 V => (if 3 ≤ y3 then some V else ((ix 3 y3).bind fun j2 => ((ix 3 y3).bind fun j3 => ((rd 8 (V (22 + j3)) y1).bind fun x4 => ((wr 8 V (22 + j2) y2 x4).bind fun V5 => (f_X0_moveRequest_L2 n y1 y2 (y3 + 1) V5))))))
noncomputable def f_X0_moveRequest (V : FV) (p1 : Int32) (p2 : Int32) : Option (FV) := (f_X0_moveRequest_L2 FUEL p1 p2 0 V)
noncomputable def f_X0_dropRequest_L23 : Nat → Int32 → Int32 → Int32 → FV → Option (Int32 × FV)
  | 0 => fun _ _ _ _ => none
  | n + 1 => fun y1 y2 y3 V => (if (V 0 2) ≤ y3 then (lt1 (st V 0 2 ((V 0 2) - 1)) fun V5 => some (y2, V5)) else ((f_X0_moveRequest V y3 (y3 - 1)).bind fun V6 => (f_X0_dropRequest_L23 n y1 y2 (y3 + 1) V6)))
noncomputable def f_X0_dropRequest (V : FV) (p1 : Int32) : Option (Int32 × FV) := ((f_X0_isPlace V p1).bind fun x1 => (if x1 = 0 then some ((-1), V) else ((rd 8 (V 23) (p1 - 1)).bind fun x3 => (f_X0_dropRequest_L23 FUEL p1 x3 p1 V))))
noncomputable def f_X0_changeSetting (V : FV) (p1 : Int32) (p2 : Int32) : Option (Int32 × FV) := (if p1 = 0 then (if p2 < 4 then some ((-1), V) else (if 100 < p2 then some ((-1), V) else ((rd 2 (V 4) p1).bind fun x11 => ((wr 2 V 4 p1 p2).bind fun V12 => some (x11, V12))))) else (if p1 = 1 then (if p2 = 0 then ((rd 2 (V 4) p1).bind fun x4 => ((wr 2 V 4 p1 p2).bind fun V5 => some (x4, V5))) else (if p2 = 1 then ((rd 2 (V 4) p1).bind fun x7 => ((wr 2 V 4 p1 p2).bind fun V8 => some (x7, V8))) else some ((-1), V))) else some ((-1), V)))
noncomputable def f_X0_flowIn_L11 : Nat → Int32 → Int32 → FV → Option (FV)
  | 0 => fun _ _ _ => none
  | n + 1 => fun y1 y2 V => (if (V 0 0) ≤ y2 then some V else (if ((y1 >>> (y2 &&& 31)) &&& 1) = 0 then ((rd 12 (V 8) y2).bind fun x4 => ((f_X0_roomIn V y2).bind fun x5 => (lt1 (jmin x4 x5) fun x6 => ((rd 12 (V 10) y2).bind fun x7 => ((wr 12 V 10 y2 (x7 + x6)).bind fun V8 => ((rd 12 (V8 12) y2).bind fun x9 => ((wr 12 V8 12 y2 (x9 + x6)).bind fun V10 => ((rd 12 (V10 13) y2).bind fun x11 => ((wr 12 V10 13 y2 (x11 + (x4 - x6))).bind fun V12 => (f_X0_flowIn_L11 n y1 (y2 + 1) V12)))))))))) else (f_X0_flowIn_L11 n y1 (y2 + 1) V)))
noncomputable def f_X0_flowIn (V : FV) : Option (FV) := ((f_X0_dryWells V (V 0 3)).bind fun x1 => (f_X0_flowIn_L11 FUEL x1 0 V))
noncomputable def f_X0_lendAtNoon_L9 : Nat → Int32 → Int32 → FV → Option (Int32 × FV)
  | 0 => fun _ _ _ => none
  | n + 1 => fun y1 y2 V => (if y2 ≤ 0 then some (y1, V) else ((rd 12 (V 6) y2).bind fun x2 => ((rd 12 (V 10) y2).bind fun x3 => ((rd 12 (V 7) y2).bind fun x4 => ((f_X0_isWell V x2).bind fun x5 => (if x5 = 0 then (f_X0_lendAtNoon_L9 n y1 (y2 + (-1)) V) else ((f_X0_roomIn V x2).bind fun x7 => (lt1 (jmin (x3 - (x4 / 2)) x7) fun x8 => (if x8 ≤ 0 then (f_X0_lendAtNoon_L9 n y1 (y2 + (-1)) V) else ((rd 12 (V 10) y2).bind fun x10 => ((wr 12 V 10 y2 (x10 - x8)).bind fun V11 => ((rd 12 (V11 10) x2).bind fun x12 => ((wr 12 V11 10 x2 (x12 + x8)).bind fun V13 => ((rd 12 (V13 11) y2).bind fun x14 => ((wr 12 V13 11 y2 (x14 + x8)).bind fun V15 => ((rd 12 (V15 16) x2).bind fun x16 => ((wr 12 V15 16 x2 (x16 + x8)).bind fun V17 => (f_X0_lendAtNoon_L9 n (y1 ||| (1 <<< (y2 &&& 31))) (y2 + (-1)) V17))))))))))))))))))
noncomputable def f_X0_lendAtNoon (V : FV) : Option (Int32 × FV) := (f_X0_lendAtNoon_L9 FUEL 0 ((V 0 0) - 1) V)
noncomputable def f_X0_payBack (V : FV) (p1 : Int32) (p2 : Int32) : Option (FV) := ((rd 12 (V 11) p2).bind fun x1 => ((rd 12 (V 10) p1).bind fun x2 => ((f_X0_roomIn V p2).bind fun x3 => (lt1 (jmin x2 x3) fun x4 => (lt1 (jmin x1 x4) fun x5 => ((rd 12 (V 10) p1).bind fun x6 => ((wr 12 V 10 p1 (x6 - x5)).bind fun V7 => ((rd 12 (V7 10) p2).bind fun x8 => ((wr 12 V7 10 p2 (x8 + x5)).bind fun V9 => ((rd 12 (V9 11) p2).bind fun x10 => ((wr 12 V9 11 p2 (x10 - x5)).bind fun V11 => ((rd 12 (V11 17) p2).bind fun x12 => ((wr 12 V11 17 p2 (x12 + x5)).bind fun V13 => some V13)))))))))))))
noncomputable def f_X0_payBackInEvening_L14 (k2 : Int32 → FV → Option (FV)) : Nat → Int32 → Int32 → FV → Option (FV)
  | 0 => fun _ _ _ => none
  | n + 1 => fun y1 y2 V => (if (V 0 0) ≤ y2 then (k2 (y1 + 1) V) else ((rd 12 (V 6) y2).bind fun x3 => (if x3 = y1 then ((f_X0_payBack V y1 y2).bind fun V5 => (f_X0_payBackInEvening_L14 k2 n y1 (y2 + 1) V5)) else (f_X0_payBackInEvening_L14 k2 n y1 (y2 + 1) V))))
noncomputable def f_X0_payBackInEvening_L2 : Nat → Int32 → FV → Option (FV)
  | 0 => fun _ _ => none
  | n + 1 => fun y1 V => (if (V 0 0) ≤ y1 then some V else (f_X0_payBackInEvening_L14 (f_X0_payBackInEvening_L2 n) FUEL y1 (y1 + 1) V))
noncomputable def f_X0_payBackInEvening (V : FV) : Option (FV) := (f_X0_payBackInEvening_L2 FUEL 0 V)
noncomputable def f_X0_serveWaiting_L12 : Nat → Int32 → Int32 → Int32 → Int32 → FV → Option (Int32 × FV)
  | 0 => fun _ _ _ _ _ => none
  | n + 1 => fun y1 y2 y3 y4 V => (if y3 ≤ y4 then (lt1 (st V 0 2 y1) fun V2 => (lt1 (st V2 0 4 ((V2 0 4) + (y3 - y1))) fun V3 => some (y3 - y1, V3))) else ((rd 8 (V 22) y4).bind fun x4 => ((rd 8 (V 23) y4).bind fun x5 => (if y2 = 0 then (if (V 4 1) = 1 then ((f_X0_moveRequest V y4 y1).bind fun V9 => (f_X0_serveWaiting_L12 n (y1 + 1) 1 y3 (y4 + 1) V9)) else ((f_X0_moveRequest V y4 y1).bind fun V8 => (f_X0_serveWaiting_L12 n (y1 + 1) 0 y3 (y4 + 1) V8))) else (b2 (f_X0_shareOut V x4 x5) fun x10 V10 => (if x10 = x5 then (b2 (f_X0_pourShares V10 x4) fun x15 V15 => (f_X0_serveWaiting_L12 n y1 y2 y3 (y4 + 1) V15)) else (if (V10 4 1) = 1 then ((f_X0_moveRequest V10 y4 y1).bind fun V14 => (f_X0_serveWaiting_L12 n (y1 + 1) 1 y3 (y4 + 1) V14)) else ((f_X0_moveRequest V10 y4 y1).bind fun V13 => (f_X0_serveWaiting_L12 n (y1 + 1) 0 y3 (y4 + 1) V13)))))))))
noncomputable def f_X0_serveWaiting (V : FV) : Option (Int32 × FV) := (f_X0_serveWaiting_L12 FUEL 0 1 (V 0 2) 0 V)
noncomputable def f_X0_passTick (V : FV) : Option (Int32 × FV) := (lt1 (st V 0 3 ((V 0 3) + 1)) fun V1 => ((f_X0_flowIn V1).bind fun V2 => ((f_X0_timeOfDay V2).bind fun x3 => (if x3 = 0 then (b2 (f_X0_lendAtNoon V2) fun x10 V10 => (b2 (f_X0_serveWaiting V10) fun x11 V11 => some (x11, V11))) else ((f_X0_timeOfDay V2).bind fun x5 => (if x5 = ((V2 4 0) / 2) then ((f_X0_payBackInEvening V2).bind fun V8 => (b2 (f_X0_serveWaiting V8) fun x9 V9 => some (x9, V9))) else (b2 (f_X0_serveWaiting V2) fun x7 V7 => some (x7, V7))))))))
noncomputable def f_X0_passTicks_L32 : Nat → Int32 → Int32 → Int32 → FV → Option (Int32 × FV)
  | 0 => fun _ _ _ _ => none
  | n + 1 => fun y1 y2 y3 V => (if y1 ≤ y3 then some (y2, V) else (b2 (f_X0_passTick V) fun x5 V5 => (f_X0_passTicks_L32 n y1 (y2 + x5) (y3 + 1) V5)))
noncomputable def f_X0_passTicks (V : FV) (p1 : Int32) : Option (Int32 × FV) := (if p1 < 1 then some ((-1), V) else (if p1 ≤ 200 then (if ((V 0 3) + p1) ≤ 50000 then (f_X0_passTicks_L32 FUEL p1 0 0 V) else some ((-3), V)) else some ((-1), V)))
