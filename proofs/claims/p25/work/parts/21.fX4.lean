theorem sw_count {x : Int32} (c0 : ¬ x = 0) (c1 : ¬ x = 1) (c2 : ¬ x = 2) (c3 : ¬ x = 3) (c4 : ¬ x = 4) (c5 : ¬ x = 5) (c6 : ¬ x = 6) (c7 : ¬ x = 7) (c8 : ¬ x = 8) (c9 : ¬ x = 9) (c10 : ¬ x = 10) (c11 : ¬ x = 11) (c12 : ¬ x = 12) (c13 : ¬ x = 13) (c14 : ¬ x = 14) (c20 : ¬ x = 20) (c21 : ¬ x = 21) :
    (x.toInt < 0 ∨ 21 < x.toInt) ∨ ∃ o : Nat, ¬ x.toInt < 0 ∧ ¬ 21 < x.toInt ∧ (x.toInt - 0).toNat = o ∧ (o = 15 ∨ o = 16 ∨ o = 17 ∨ o = 18 ∨ o = 19) := by
  have h0 := sw_ti (k := 0) 0 (by decide) c0
  have h1 := sw_ti (k := 1) 1 (by decide) c1
  have h2 := sw_ti (k := 2) 2 (by decide) c2
  have h3 := sw_ti (k := 3) 3 (by decide) c3
  have h4 := sw_ti (k := 4) 4 (by decide) c4
  have h5 := sw_ti (k := 5) 5 (by decide) c5
  have h6 := sw_ti (k := 6) 6 (by decide) c6
  have h7 := sw_ti (k := 7) 7 (by decide) c7
  have h8 := sw_ti (k := 8) 8 (by decide) c8
  have h9 := sw_ti (k := 9) 9 (by decide) c9
  have h10 := sw_ti (k := 10) 10 (by decide) c10
  have h11 := sw_ti (k := 11) 11 (by decide) c11
  have h12 := sw_ti (k := 12) 12 (by decide) c12
  have h13 := sw_ti (k := 13) 13 (by decide) c13
  have h14 := sw_ti (k := 14) 14 (by decide) c14
  have h20 := sw_ti (k := 20) 20 (by decide) c20
  have h21 := sw_ti (k := 21) 21 (by decide) c21
  by_cases a : x.toInt < 0 ∨ 21 < x.toInt
  · exact Or.inl a
  · exact Or.inr ⟨(x.toInt - 0).toNat, by omega, by omega, rfl, by omega⟩
theorem sw_out {x : Int32} (c0 : ¬ x = 0) (c1 : ¬ x = 1) (c2 : ¬ x = 2) (c3 : ¬ x = 3) (c4 : ¬ x = 4) (c5 : ¬ x = 5) (c6 : ¬ x = 6) (c7 : ¬ x = 7) (c8 : ¬ x = 8) (c9 : ¬ x = 9) (c10 : ¬ x = 10) (c11 : ¬ x = 11) (c12 : ¬ x = 12) (c13 : ¬ x = 13) (c14 : ¬ x = 14) (c15 : ¬ x = 15) (c16 : ¬ x = 16) (c17 : ¬ x = 17) (c18 : ¬ x = 18) (c19 : ¬ x = 19) (c20 : ¬ x = 20) (c21 : ¬ x = 21) : x.toInt < 0 ∨ 21 < x.toInt := by
  have h0 := sw_ti (k := 0) 0 (by decide) c0
  have h1 := sw_ti (k := 1) 1 (by decide) c1
  have h2 := sw_ti (k := 2) 2 (by decide) c2
  have h3 := sw_ti (k := 3) 3 (by decide) c3
  have h4 := sw_ti (k := 4) 4 (by decide) c4
  have h5 := sw_ti (k := 5) 5 (by decide) c5
  have h6 := sw_ti (k := 6) 6 (by decide) c6
  have h7 := sw_ti (k := 7) 7 (by decide) c7
  have h8 := sw_ti (k := 8) 8 (by decide) c8
  have h9 := sw_ti (k := 9) 9 (by decide) c9
  have h10 := sw_ti (k := 10) 10 (by decide) c10
  have h11 := sw_ti (k := 11) 11 (by decide) c11
  have h12 := sw_ti (k := 12) 12 (by decide) c12
  have h13 := sw_ti (k := 13) 13 (by decide) c13
  have h14 := sw_ti (k := 14) 14 (by decide) c14
  have h15 := sw_ti (k := 15) 15 (by decide) c15
  have h16 := sw_ti (k := 16) 16 (by decide) c16
  have h17 := sw_ti (k := 17) 17 (by decide) c17
  have h18 := sw_ti (k := 18) 18 (by decide) c18
  have h19 := sw_ti (k := 19) 19 (by decide) c19
  have h20 := sw_ti (k := 20) 20 (by decide) c20
  have h21 := sw_ti (k := 21) 21 (by decide) c21
  omega
theorem sw_X2_numbersOf {x : Int32} (c100 : ¬ x = 100) (c110 : ¬ x = 110) (c114 : ¬ x = 114) (c116 : ¬ x = 116) : Op.lookupswitch.offset (#[(100, 45), (110, 49), (114, 47), (116, 43)] : Array (Int × Int)).toList 51 x.toInt = 51 := by
  have h100 := sw_ti (k := 100) 100 (by decide) c100
  have h110 := sw_ti (k := 110) 110 (by decide) c110
  have h114 := sw_ti (k := 114) 114 (by decide) c114
  have h116 := sw_ti (k := 116) 116 (by decide) c116
  simp [Op.lookupswitch.offset, Ne.symm h100, Ne.symm h110, Ne.symm h114, Ne.symm h116]
theorem sw_X2_doOrder {x : Int32} (c100 : ¬ x = 100) (c110 : ¬ x = 110) (c114 : ¬ x = 114) (c116 : ¬ x = 116) : Op.lookupswitch.offset (#[(100, 43), (110, 88), (114, 60), (116, 77)] : Array (Int × Int)).toList 121 x.toInt = 121 := by
  have h100 := sw_ti (k := 100) 100 (by decide) c100
  have h110 := sw_ti (k := 110) 110 (by decide) c110
  have h114 := sw_ti (k := 114) 114 (by decide) c114
  have h116 := sw_ti (k := 116) 116 (by decide) c116
  simp [Op.lookupswitch.offset, Ne.symm h100, Ne.symm h110, Ne.symm h114, Ne.symm h116]
theorem sw_X4_does {x : Int32} (c100 : ¬ x = 100) (c114 : ¬ x = 114) (c116 : ¬ x = 116) : Op.lookupswitch.offset (#[(100, 35), (114, 52), (116, 69)] : Array (Int × Int)).toList 80 x.toInt = 80 := by
  have h100 := sw_ti (k := 100) 100 (by decide) c100
  have h114 := sw_ti (k := 114) 114 (by decide) c114
  have h116 := sw_ti (k := 116) 116 (by decide) c116
  simp [Op.lookupswitch.offset, Ne.symm h100, Ne.symm h114, Ne.symm h116]
noncomputable def f_X4_in (p0 : Int32) (p1 : Int32) (p2 : Int32) : Option (Int32) := (if p0 < p1 then some 0 else (if p2 < p0 then some 0 else some 1))
noncomputable def f_X4_least (p0 : Int32) (p1 : Int32) : Option (Int32) := (if p1 ≤ p0 then some p1 else some p0)
noncomputable def f_X4_isDraw (p0 : Int32) : Option (Int32) := ((f_X4_in p0 1 999).bind fun x1 => ((bz x1).bind fun _ => some x1))
noncomputable def f_X4_isWell (V : FV) (p1 : Int32) : Option (Int32) := ((f_X4_in p1 0 ((V 1 3) - 1)).bind fun x1 => ((bz x1).bind fun _ => some x1))
noncomputable def f_X4_of (V : FV) (p1 : Int32) (p2 : Int32) : Option (Int32) := ((rd 236 (V 1) ((8 + (12 * p1)) + p2)).bind fun x1 => some x1)
noncomputable def f_X4_half (V : FV) (p1 : Int32) : Option (Int32) := ((f_X4_of V p1 1).bind fun x1 => some (x1 / 2))
noncomputable def f_X4_room (V : FV) (p1 : Int32) : Option (Int32) := ((f_X4_of V p1 1).bind fun x1 => ((f_X4_of V p1 4).bind fun x2 => some (x1 - x2)))
noncomputable def f_X4_droughtOf (V : FV) (p1 : Int32) (p2 : Int32) : Option (Int32) := ((f_X4_in p1 0 ((V 1 4) - 1)).bind fun x1 => (if x1 = 0 then some ((-1)) else ((f_X4_in p2 0 2).bind fun x3 => (if x3 = 0 then some ((-1)) else ((rd 236 (V 1) ((152 + (3 * p1)) + p2)).bind fun x5 => some x5)))))
noncomputable def f_X4_isDry_L5 (V : FV) : Nat → Int32 → Int32 → Int32 → Int32 → Option (Int32)
  | 0 => fun _ _ _ _ => none
  | n + 1 => fun y1 y2 y3 y4 => (if (V 1 4) ≤ y4 then ((bz y3).bind fun _ => some y3) else (if y3 = 0 then ((rd 236 (V 1) (152 + (3 * y4))).bind fun x4 => (if x4 = y1 then ((rd 236 (V 1) ((152 + (3 * y4)) + 1)).bind fun x6 => ((rd 236 (V 1) ((152 + (3 * y4)) + 2)).bind fun x7 => ((f_X4_in y2 x6 x7).bind fun x8 => (if x8 = 0 then (f_X4_isDry_L5 V n y1 y2 0 (y4 + 1)) else (f_X4_isDry_L5 V n y1 y2 1 (y4 + 1)))))) else (f_X4_isDry_L5 V n y1 y2 0 (y4 + 1)))) else (f_X4_isDry_L5 V n y1 y2 1 (y4 + 1))))
noncomputable def f_X4_isDry (V : FV) (p1 : Int32) (p2 : Int32) : Option (Int32) := (f_X4_isDry_L5 V FUEL p1 p2 0 0)
noncomputable def f_X4_belowMany_L4 (V : FV) : Nat → Int32 → Int32 → Int32 → Option (Int32)
  | 0 => fun _ _ _ => none
  | n + 1 => fun y1 y2 y3 => (if (V 1 3) ≤ y3 then some y2 else ((f_X4_of V y3 0).bind fun x2 => (if x2 = y1 then (f_X4_belowMany_L4 V n y1 (y2 + 1) (y3 + 1)) else (f_X4_belowMany_L4 V n y1 (y2 + 0) (y3 + 1)))))
noncomputable def f_X4_belowMany (V : FV) (p1 : Int32) : Option (Int32) := (f_X4_belowMany_L4 V FUEL p1 0 0)
noncomputable def f_X4_wellOf (V : FV) (p1 : Int32) (p2 : Int32) : Option (Int32) := ((f_X4_isWell V p1).bind fun x1 => (if x1 = 0 then some ((-1)) else ((f_X4_in p2 0 13).bind fun x3 => (if x3 = 0 then some ((-1)) else (if p2 = 12 then ((f_X4_belowMany V p1).bind fun x13 => some x13) else (if p2 = 13 then ((f_X4_isDry V p1 ((V 1 0) + 1)).bind fun x11 => (if x11 = 0 then some 0 else some 1)) else (if p2 = 0 then (if p1 = 0 then some ((-4)) else ((f_X4_of V p1 p2).bind fun x10 => some x10)) else ((f_X4_of V p1 p2).bind fun x8 => some x8))))))))
noncomputable def f_X4_aboveAt_L24 (V : FV) : Nat → Int32 → Int32 → Int32 → Int32 → Option (Int32)
  | 0 => fun _ _ _ _ => none
  | n + 1 => fun y1 y2 y3 y4 => (if y2 ≤ y4 then (if 0 ≤ y3 then some y3 else some ((-4))) else (if y3 < 0 then (if 0 ≤ y3 then some y3 else some ((-4))) else ((f_X4_of V y3 0).bind fun x9 => (f_X4_aboveAt_L24 V n y1 y2 x9 (y4 + 1)))))
noncomputable def f_X4_aboveAt (V : FV) (p1 : Int32) (p2 : Int32) : Option (Int32) := ((f_X4_isWell V p1).bind fun x1 => (if x1 = 0 then some ((-1)) else (if 0 ≤ p2 then ((f_X4_of V p1 0).bind fun x4 => (f_X4_aboveAt_L24 V FUEL p1 p2 x4 0)) else some ((-1)))))
noncomputable def f_X4_ableOf_L14 (V : FV) : Nat → Int32 → Int32 → Int32 → Option (Int32)
  | 0 => fun _ _ _ => none
  | n + 1 => fun y1 y2 y3 => (if y3 < 0 then some y2 else ((f_X4_of V y3 4).bind fun x4 => ((f_X4_of V y3 3).bind fun x5 => ((f_X4_least x4 x5).bind fun x6 => ((f_X4_of V y3 0).bind fun x7 => (f_X4_ableOf_L14 V n y1 (y2 + x6) x7))))))
noncomputable def f_X4_ableOf (V : FV) (p1 : Int32) : Option (Int32) := ((f_X4_of V p1 4).bind fun x1 => ((f_X4_of V p1 0).bind fun x2 => (f_X4_ableOf_L14 V FUEL p1 x1 x2)))
noncomputable def f_X4_part (V : FV) (p1 : Int32) (p2 : Int32) (p3 : Int32) : Option (Int32) := (if p1 = p2 then ((f_X4_of V p2 4).bind fun x6 => ((f_X4_least p3 x6).bind fun x7 => some x7)) else ((f_X4_of V p2 4).bind fun x2 => ((f_X4_of V p2 3).bind fun x3 => ((f_X4_least x2 x3).bind fun x4 => ((f_X4_least p3 x4).bind fun x5 => some x5)))))
noncomputable def f_X4_isPlace (V : FV) (p1 : Int32) : Option (Int32) := ((f_X4_in p1 1 (V 1 5)).bind fun x1 => ((bz x1).bind fun _ => some x1))
noncomputable def f_X4_requestAt (V : FV) (p1 : Int32) (p2 : Int32) : Option (Int32) := ((f_X4_isPlace V p1).bind fun x1 => (if x1 = 0 then some ((-1)) else ((f_X4_in p2 0 2).bind fun x3 => (if x3 = 0 then some ((-1)) else ((rd 236 (V 1) ((212 + (3 * (p1 - 1))) + p2)).bind fun x5 => some x5)))))
noncomputable def f_X4_able (V : FV) (p1 : Int32) : Option (Int32) := ((f_X4_isWell V p1).bind fun x1 => (if x1 = 0 then some ((-1)) else ((f_X4_ableOf V p1).bind fun x3 => some x3)))
noncomputable def f_X4_gives_L43 (V : FV) : Nat → Int32 → Int32 → Int32 → Int32 → Int32 → Option (Int32)
  | 0 => fun _ _ _ _ _ => none
  | n + 1 => fun y1 y2 y3 y4 y5 => (if y5 < 0 then some 0 else ((f_X4_part V y1 y5 y4).bind fun x10 => (if y5 = y3 then some x10 else ((f_X4_of V y5 0).bind fun x12 => (f_X4_gives_L43 V n y1 y2 y3 (y4 - x10) x12)))))
noncomputable def f_X4_gives (V : FV) (p1 : Int32) (p2 : Int32) (p3 : Int32) : Option (Int32) := ((f_X4_isWell V p1).bind fun x1 => (if x1 = 0 then some ((-1)) else ((f_X4_isDraw p2).bind fun x3 => (if x3 = 0 then some ((-1)) else ((f_X4_isWell V p3).bind fun x5 => (if x5 = 0 then some ((-1)) else ((f_X4_ableOf V p1).bind fun x7 => (if p2 ≤ x7 then (f_X4_gives_L43 V FUEL p1 p2 p3 p2 p1) else some ((-2))))))))))
noncomputable def f_X4_sum_L4 (V : FV) : Nat → Int32 → Int32 → Int32 → Option (Int32)
  | 0 => fun _ _ _ => none
  | n + 1 => fun y1 y2 y3 => (if (V 1 3) ≤ y3 then some y2 else ((f_X4_of V y3 y1).bind fun x2 => (f_X4_sum_L4 V n y1 (y2 + x2) (y3 + 1))))
noncomputable def f_X4_sum (V : FV) (p1 : Int32) : Option (Int32) := (f_X4_sum_L4 V FUEL p1 0 0)
noncomputable def f_X4_count (V : FV) (p1 : Int32) : Option (Int32) := (if p1 = 0 then some (V 1 3) else if p1 = 1 then some (V 1 4) else if p1 = 2 then some (V 1 0) else if p1 = 3 then ((f_X4_sum V 4).bind fun x5 => some x5) else if p1 = 4 then ((f_X4_sum V 6).bind fun x7 => some x7) else if p1 = 5 then ((f_X4_sum V 7).bind fun x9 => some x9) else if p1 = 6 then some (V 1 6) else if p1 = 7 then ((f_X4_sum V 10).bind fun x12 => some x12) else if p1 = 8 then ((f_X4_sum V 11).bind fun x14 => some x14) else if p1 = 9 then ((f_X4_sum V 5).bind fun x16 => some x16) else if p1 = 10 then some (V 1 5) else if p1 = 11 then some (V 1 7) else if p1 = 12 then ((nz (V 1 1)).bind fun _ => some ((V 1 1) - ((V 1 0) - (V 1 0) / (V 1 1) * (V 1 1)))) else if p1 = 13 then some (V 0 0) else if p1 = 14 then some (V 0 2) else if p1 = 20 then some (V 1 1) else if p1 = 21 then some (V 1 2) else some ((-1)))
noncomputable def f_X4_here (V : FV) : Option (Int32) := (if (V 0 2) ≤ (V 0 3) then some 0 else ((rd 60 (V 4) (V 0 3)).bind fun x2 => some x2))
noncomputable def f_X4_copy_L2 : Nat → Int32 → FV → Option (FV)
  | 0 => fun _ _ => none
  | n + 1 => fun y1 V => (if 236 ≤ y1 then some V else ((rd 236 (V 1) y1).bind fun x2 => ((wr 236 V 2 y1 x2).bind fun V3 => (f_X4_copy_L2 n (y1 + 1) V3))))
noncomputable def f_X4_copy (V : FV) : Option (FV) := (f_X4_copy_L2 FUEL 0 V)
noncomputable def f_X4_back_L2 : Nat → Int32 → FV → Option (FV)
  | 0 => fun _ _ => none
  | n + 1 => fun y1 V => (if 236 ≤ y1 then some V else ((rd 236 (V 2) y1).bind fun x2 => ((wr 236 V 1 y1 x2).bind fun V3 => (f_X4_back_L2 n (y1 + 1) V3))))
noncomputable def f_X4_back (V : FV) : Option (FV) := (f_X4_back_L2 FUEL 0 V)
noncomputable def f_X4_recorded_L6 : Nat → Int32 → Int32 → FV → Option (Int32 × FV)
  | 0 => fun _ _ _ => none
  | n + 1 => fun y1 y2 V => (if 236 ≤ y2 then (lt1 (st V 0 1 (((V 0 1) + 1) - ((V 0 1) + 1) / 4 * 4)) fun V3 => (if 4 ≤ (V3 0 0) then (lt1 (st V3 0 0 4) fun V5 => some (y1, V5)) else (lt1 (st V3 0 0 ((V3 0 0) + 1)) fun V6 => some (y1, V6)))) else ((rd 236 (V 2) y2).bind fun x7 => ((wr 944 V 3 ((236 * (V 0 1)) + y2) x7).bind fun V8 => (f_X4_recorded_L6 n y1 (y2 + 1) V8))))
noncomputable def f_X4_recorded (V : FV) (p1 : Int32) : Option (Int32 × FV) := (if p1 < 0 then some (p1, V) else (f_X4_recorded_L6 FUEL p1 0 V))
noncomputable def f_X4_undo_L36 : Nat → Int32 → FV → Option (Int32 × FV)
  | 0 => fun _ _ => none
  | n + 1 => fun y1 V => (if 236 ≤ y1 then some (V 0 0, V) else ((rd 944 (V 3) ((236 * (V 0 1)) + y1)).bind fun x5 => ((wr 236 V 1 y1 x5).bind fun V6 => (f_X4_undo_L36 n (y1 + 1) V6))))
noncomputable def f_X4_undo (V : FV) : Option (Int32 × FV) := (if (V 0 0) = 0 then some ((-2), V) else (lt1 (st V 0 1 ((((V 0 1) + 4) - 1) - (((V 0 1) + 4) - 1) / 4 * 4)) fun V2 => (lt1 (st V2 0 0 ((V2 0 0) - 1)) fun V3 => (f_X4_undo_L36 FUEL 0 V3))))
noncomputable def f_X4_adds (V : FV) (p1 : Int32) (p2 : Int32) (p3 : Int32) : Option (FV) := ((rd 236 (V 1) ((8 + (12 * p1)) + p2)).bind fun x1 => ((wr 236 V 1 ((8 + (12 * p1)) + p2) (x1 + p3)).bind fun V2 => some V2))
noncomputable def f_X4_addsWell_L77 : Nat → Int32 → Int32 → Int32 → Int32 → Int32 → Int32 → FV → Option (Int32 × FV)
  | 0 => fun _ _ _ _ _ _ _ => none
  | n + 1 => fun y1 y2 y3 y4 y5 y6 V => (if 12 ≤ y6 then ((f_X4_adds V y5 0 y1).bind fun V12 => ((f_X4_adds V12 y5 1 y2).bind fun V13 => ((f_X4_adds V13 y5 2 y3).bind fun V14 => ((f_X4_adds V14 y5 3 y4).bind fun V15 => (lt1 (st V15 1 3 ((V15 1 3) + 1)) fun V16 => some (y5, V16)))))) else ((wr 236 V 1 ((8 + (12 * y5)) + y6) 0).bind fun V17 => (f_X4_addsWell_L77 n y1 y2 y3 y4 y5 (y6 + 1) V17)))
noncomputable def f_X4_addsWell (V : FV) (p1 : Int32) (p2 : Int32) (p3 : Int32) (p4 : Int32) : Option (Int32 × FV) := (if (V 1 3) = 0 then (if p1 = ((-1)) then ((f_X4_in p2 1 1000).bind fun x19 => (if x19 = 0 then some ((-1), V) else ((f_X4_in p3 0 100).bind fun x21 => (if x21 = 0 then some ((-1), V) else ((f_X4_in p4 0 1000).bind fun x23 => (if x23 = 0 then some ((-1), V) else (if (V 1 3) = 12 then some ((-3), V) else (f_X4_addsWell_L77 FUEL p1 p2 p3 p4 (V 1 3) 0 V)))))))) else some ((-1), V)) else ((f_X4_isWell V p1).bind fun x2 => (if x2 = 0 then some ((-1), V) else ((f_X4_in p2 1 1000).bind fun x4 => (if x4 = 0 then some ((-1), V) else ((f_X4_in p3 0 100).bind fun x6 => (if x6 = 0 then some ((-1), V) else ((f_X4_in p4 0 1000).bind fun x8 => (if x8 = 0 then some ((-1), V) else (if (V 1 3) = 12 then some ((-3), V) else (f_X4_addsWell_L77 FUEL p1 p2 p3 p4 (V 1 3) 0 V)))))))))))
noncomputable def f_X4_well (V : FV) (p1 : Int32) (p2 : Int32) (p3 : Int32) (p4 : Int32) : Option (Int32 × FV) := ((f_X4_copy V).bind fun V1 => (b2 (f_X4_addsWell V1 p1 p2 p3 p4) fun x2 V2 => (b2 (f_X4_recorded V2 x2) fun x3 V3 => some (x3, V3))))
noncomputable def f_X4_addsDrought (V : FV) (p1 : Int32) (p2 : Int32) (p3 : Int32) : Option (Int32 × FV) := ((f_X4_isWell V p1).bind fun x1 => (if x1 = 0 then some ((-1), V) else ((f_X4_in p2 ((V 1 0) + 1) 60000).bind fun x3 => (if x3 = 0 then some ((-1), V) else ((f_X4_in p3 p2 60000).bind fun x5 => (if x5 = 0 then some ((-1), V) else (if (V 1 4) = 20 then some ((-3), V) else ((wr 236 V 1 (152 + (3 * (V 1 4))) p1).bind fun V8 => ((wr 236 V8 1 ((152 + (3 * (V 1 4))) + 1) p2).bind fun V9 => ((wr 236 V9 1 ((152 + (3 * (V 1 4))) + 2) p3).bind fun V10 => (lt1 (st V10 1 4 ((V10 1 4) + 1)) fun V11 => some ((V11 1 4) - 1, V11))))))))))))
noncomputable def f_X4_drought (V : FV) (p1 : Int32) (p2 : Int32) (p3 : Int32) : Option (Int32 × FV) := ((f_X4_copy V).bind fun V1 => (b2 (f_X4_addsDrought V1 p1 p2 p3) fun x2 V2 => (b2 (f_X4_recorded V2 x2) fun x3 V3 => some (x3, V3))))
noncomputable def f_X4_takes_L8 : Nat → Int32 → Int32 → Int32 → Int32 → Int32 → FV → Option (Int32 × FV)
  | 0 => fun _ _ _ _ _ _ => none
  | n + 1 => fun y1 y2 y3 y4 y5 V => (if y5 < 0 then (lt1 (st V 1 6 ((V 1 6) + y2)) fun V2 => some (y4, V2)) else ((f_X4_part V y1 y5 y3).bind fun x3 => ((f_X4_adds V y5 4 (-x3)).bind fun V4 => (if y5 = y1 then ((f_X4_adds V4 y5 8 x3).bind fun V10 => (if y5 = y1 then ((f_X4_of V10 y5 0).bind fun x13 => (f_X4_takes_L8 n y1 y2 (y3 - x3) (y4 + 0) x13 V10)) else ((f_X4_of V10 y5 0).bind fun x12 => (f_X4_takes_L8 n y1 y2 (y3 - x3) (y4 + x3) x12 V10)))) else ((f_X4_adds V4 y5 9 x3).bind fun V6 => (if y5 = y1 then ((f_X4_of V6 y5 0).bind fun x9 => (f_X4_takes_L8 n y1 y2 (y3 - x3) (y4 + 0) x9 V6)) else ((f_X4_of V6 y5 0).bind fun x8 => (f_X4_takes_L8 n y1 y2 (y3 - x3) (y4 + x3) x8 V6))))))))
noncomputable def f_X4_takes (V : FV) (p1 : Int32) (p2 : Int32) : Option (Int32 × FV) := (f_X4_takes_L8 FUEL p1 p2 p2 0 p1 V)
noncomputable def f_X4_draws (V : FV) (p1 : Int32) (p2 : Int32) : Option (Int32 × FV) := ((f_X4_isWell V p1).bind fun x1 => (if x1 = 0 then some ((-1), V) else ((f_X4_isDraw p2).bind fun x3 => (if x3 = 0 then some ((-1), V) else ((f_X4_ableOf V p1).bind fun x5 => (if p2 ≤ x5 then (b2 (f_X4_takes V p1 p2) fun x7 V7 => some (x7, V7)) else some ((-2), V)))))))
noncomputable def f_X4_draw (V : FV) (p1 : Int32) (p2 : Int32) : Option (Int32 × FV) := ((f_X4_copy V).bind fun V1 => (b2 (f_X4_draws V1 p1 p2) fun x2 V2 => (b2 (f_X4_recorded V2 x2) fun x3 V3 => some (x3, V3))))
noncomputable def f_X4_requests (V : FV) (p1 : Int32) (p2 : Int32) : Option (Int32 × FV) := ((f_X4_isWell V p1).bind fun x1 => (if x1 = 0 then some ((-1), V) else ((f_X4_isDraw p2).bind fun x3 => (if x3 = 0 then some ((-1), V) else (if (V 1 5) = 0 then ((f_X4_ableOf V p1).bind fun x11 => (if x11 < p2 then (if (V 1 5) = 8 then some ((-3), V) else ((wr 236 V 1 (212 + (3 * (V 1 5))) p1).bind fun V14 => ((wr 236 V14 1 ((212 + (3 * (V 1 5))) + 1) p2).bind fun V15 => ((wr 236 V15 1 ((212 + (3 * (V 1 5))) + 2) (V15 1 0)).bind fun V16 => (lt1 (st V16 1 5 ((V16 1 5) + 1)) fun V17 => some (V17 1 5, V17)))))) else (b2 (f_X4_takes V p1 p2) fun x18 V18 => some (0, V18)))) else (if (V 1 5) = 8 then some ((-3), V) else ((wr 236 V 1 (212 + (3 * (V 1 5))) p1).bind fun V7 => ((wr 236 V7 1 ((212 + (3 * (V 1 5))) + 1) p2).bind fun V8 => ((wr 236 V8 1 ((212 + (3 * (V 1 5))) + 2) (V8 1 0)).bind fun V9 => (lt1 (st V9 1 5 ((V9 1 5) + 1)) fun V10 => some (V10 1 5, V10)))))))))))
noncomputable def f_X4_request (V : FV) (p1 : Int32) (p2 : Int32) : Option (Int32 × FV) := ((f_X4_copy V).bind fun V1 => (b2 (f_X4_requests V1 p1 p2) fun x2 V2 => (b2 (f_X4_recorded V2 x2) fun x3 V3 => some (x3, V3))))
noncomputable def f_X4_leaves_L18 : Nat → Int32 → Int32 → FV → Option (FV)
  | 0 => fun _ _ _ => none
  | n + 1 => fun y1 y2 V => (if (212 + (3 * (V 1 5))) ≤ y2 then some V else ((rd 236 (V 1) (y2 + 3)).bind fun x3 => ((wr 236 V 1 y2 x3).bind fun V4 => (f_X4_leaves_L18 n y1 (y2 + 1) V4))))
noncomputable def f_X4_leaves (V : FV) (p1 : Int32) : Option (FV) := (lt1 (st V 1 5 ((V 1 5) - 1)) fun V1 => (f_X4_leaves_L18 FUEL p1 (212 + (3 * p1)) V1))
noncomputable def f_X4_cancel (V : FV) (p1 : Int32) : Option (Int32 × FV) := ((f_X4_isPlace V p1).bind fun x1 => (if x1 = 0 then some ((-1), V) else ((f_X4_copy V).bind fun V3 => ((rd 236 (V3 1) ((212 + (3 * (p1 - 1))) + 1)).bind fun x4 => ((f_X4_leaves V3 (p1 - 1)).bind fun V5 => (b2 (f_X4_recorded V5 x4) fun x6 V6 => some (x6, V6)))))))
noncomputable def f_X4_looks_L4 : Nat → Int32 → Int32 → FV → Option (FV)
  | 0 => fun _ _ _ => none
  | n + 1 => fun y1 y2 V => (if y2 = 0 then some V else (if (V 1 5) ≤ y1 then some V else ((rd 236 (V 1) (212 + (3 * y1))).bind fun x3 => ((rd 236 (V 1) ((212 + (3 * y1)) + 1)).bind fun x4 => ((f_X4_ableOf V x3).bind fun x5 => (if x5 < x4 then (if (V 1 2) = 1 then (f_X4_looks_L4 n (y1 + 1) 1 V) else (f_X4_looks_L4 n (y1 + 1) 0 V)) else (b2 (f_X4_takes V x3 x4) fun x8 V8 => (lt1 (st V8 1 7 ((V8 1 7) + 1)) fun V9 => ((f_X4_leaves V9 y1).bind fun V10 => (f_X4_looks_L4 n y1 y2 V10))))))))))
noncomputable def f_X4_looks (V : FV) : Option (FV) := (f_X4_looks_L4 FUEL 0 1 V)
noncomputable def f_X4_flows_L2 : Nat → Int32 → FV → Option (FV)
  | 0 => fun _ _ => none
  | n + 1 => fun y1 V => (if (V 1 3) ≤ y1 then some V else ((f_X4_isDry V y1 (V 1 0)).bind fun x2 => (if x2 = 0 then ((f_X4_of V y1 2).bind fun x4 => ((f_X4_room V y1).bind fun x5 => ((f_X4_least x4 x5).bind fun x6 => ((f_X4_adds V y1 4 x6).bind fun V7 => ((f_X4_adds V7 y1 6 x6).bind fun V8 => ((f_X4_adds V8 y1 7 (x4 - x6)).bind fun V9 => (f_X4_flows_L2 n (y1 + 1) V9))))))) else ((f_X4_room V y1).bind fun x10 => ((f_X4_least 0 x10).bind fun x11 => ((f_X4_adds V y1 4 x11).bind fun V12 => ((f_X4_adds V12 y1 6 x11).bind fun V13 => ((f_X4_adds V13 y1 7 (0 - x11)).bind fun V14 => (f_X4_flows_L2 n (y1 + 1) V14)))))))))
noncomputable def f_X4_flows (V : FV) : Option (FV) := (f_X4_flows_L2 FUEL 0 V)
noncomputable def f_X4_lends_L11 : Nat → Int32 → Int32 → FV → Option (Int32 × FV)
  | 0 => fun _ _ _ => none
  | n + 1 => fun y1 y2 V => (if y2 ≤ 0 then some (y1, V) else ((f_X4_of V y2 0).bind fun x2 => ((f_X4_of V y2 4).bind fun x3 => ((f_X4_half V y2).bind fun x4 => ((f_X4_room V x2).bind fun x5 => ((f_X4_least (x3 - x4) x5).bind fun x6 => (if x6 ≤ 0 then (f_X4_lends_L11 n y1 (y2 + (-1)) V) else ((f_X4_adds V y2 4 (-x6)).bind fun V8 => ((f_X4_adds V8 y2 5 x6).bind fun V9 => ((f_X4_adds V9 x2 4 x6).bind fun V10 => ((f_X4_adds V10 x2 10 x6).bind fun V11 => (f_X4_lends_L11 n (y1 ||| (1 <<< (y2 &&& 31))) (y2 + (-1)) V11))))))))))))
noncomputable def f_X4_lends (V : FV) : Option (Int32 × FV) := (f_X4_lends_L11 FUEL 0 ((V 1 3) - 1) V)
noncomputable def f_X4_paysBack_L16 (k2 : Int32 → FV → Option (FV)) : Nat → Int32 → Int32 → FV → Option (FV)
  | 0 => fun _ _ _ => none
  | n + 1 => fun y1 y2 V => (if (V 1 3) ≤ y2 then (k2 (y1 + 1) V) else ((f_X4_of V y2 0).bind fun x3 => (if x3 = y1 then ((f_X4_of V y2 5).bind fun x9 => ((f_X4_of V y1 4).bind fun x10 => ((f_X4_room V y2).bind fun x11 => ((f_X4_least x10 x11).bind fun x12 => ((f_X4_least x9 x12).bind fun x13 => ((f_X4_adds V y1 4 (-x13)).bind fun V14 => ((f_X4_adds V14 y2 4 x13).bind fun V15 => ((f_X4_adds V15 y2 5 (-x13)).bind fun V16 => ((f_X4_adds V16 y2 11 x13).bind fun V17 => (f_X4_paysBack_L16 k2 n y1 (y2 + 1) V17)))))))))) else ((f_X4_adds V y1 4 (-0)).bind fun V5 => ((f_X4_adds V5 y2 4 0).bind fun V6 => ((f_X4_adds V6 y2 5 (-0)).bind fun V7 => ((f_X4_adds V7 y2 11 0).bind fun V8 => (f_X4_paysBack_L16 k2 n y1 (y2 + 1) V8))))))))
noncomputable def f_X4_paysBack_L2 : Nat → Int32 → FV → Option (FV)
  | 0 => fun _ _ => none
  | n + 1 => fun y1 V => (if (V 1 3) ≤ y1 then some V else (f_X4_paysBack_L16 (f_X4_paysBack_L2 n) FUEL y1 (y1 + 1) V))
noncomputable def f_X4_paysBack (V : FV) : Option (FV) := (f_X4_paysBack_L2 FUEL 0 V)
noncomputable def f_X4_ticks (V : FV) : Option (FV) := (lt1 (st V 1 0 ((V 1 0) + 1)) fun V1 => ((f_X4_flows V1).bind fun V2 => ((nz (V2 1 1)).bind fun _ => (if ((V2 1 0) - (V2 1 0) / (V2 1 1) * (V2 1 1)) = 0 then (b2 (f_X4_lends V2) fun x9 V9 => ((f_X4_looks V9).bind fun V10 => some V10)) else (if ((V2 1 0) - (V2 1 0) / (V2 1 1) * (V2 1 1)) = ((V2 1 1) / 2) then ((f_X4_paysBack V2).bind fun V7 => ((f_X4_looks V7).bind fun V8 => some V8)) else ((f_X4_looks V2).bind fun V6 => some V6))))))
noncomputable def f_X4_passes_L39 : Nat → Int32 → Int32 → Int32 → FV → Option (Int32 × FV)
  | 0 => fun _ _ _ _ => none
  | n + 1 => fun y1 y2 y3 V => (if y1 ≤ y3 then some ((V 1 7) - y2, V) else ((f_X4_ticks V).bind fun V5 => (f_X4_passes_L39 n y1 y2 (y3 + 1) V5)))
noncomputable def f_X4_passes (V : FV) (p1 : Int32) : Option (Int32 × FV) := ((f_X4_in p1 1 200).bind fun x1 => (if x1 = 0 then some ((-1), V) else (if ((V 1 0) + p1) ≤ 50000 then (f_X4_passes_L39 FUEL p1 (V 1 7) 0 V) else some ((-3), V))))
noncomputable def f_X4_tick (V : FV) (p1 : Int32) : Option (Int32 × FV) := ((f_X4_copy V).bind fun V1 => (b2 (f_X4_passes V1 p1) fun x2 V2 => (b2 (f_X4_recorded V2 x2) fun x3 V3 => some (x3, V3))))
noncomputable def f_X4_set (V : FV) (p1 : Int32) (p2 : Int32) : Option (Int32 × FV) := ((f_X4_in p1 0 1).bind fun x1 => (if x1 = 0 then some ((-1), V) else (if p1 = 0 then (if p1 = 0 then ((f_X4_in p2 4 100).bind fun x24 => (if x24 = 0 then some ((-1), V) else ((f_X4_copy V).bind fun V26 => ((rd 236 (V26 1) (1 + p1)).bind fun x27 => ((wr 236 V26 1 (1 + p1) p2).bind fun V28 => (b2 (f_X4_recorded V28 x27) fun x29 V29 => some (x29, V29))))))) else ((f_X4_in p2 4 1).bind fun x18 => (if x18 = 0 then some ((-1), V) else ((f_X4_copy V).bind fun V20 => ((rd 236 (V20 1) (1 + p1)).bind fun x21 => ((wr 236 V20 1 (1 + p1) p2).bind fun V22 => (b2 (f_X4_recorded V22 x21) fun x23 V23 => some (x23, V23)))))))) else (if p1 = 0 then ((f_X4_in p2 0 100).bind fun x11 => (if x11 = 0 then some ((-1), V) else ((f_X4_copy V).bind fun V13 => ((rd 236 (V13 1) (1 + p1)).bind fun x14 => ((wr 236 V13 1 (1 + p1) p2).bind fun V15 => (b2 (f_X4_recorded V15 x14) fun x16 V16 => some (x16, V16))))))) else ((f_X4_in p2 0 1).bind fun x5 => (if x5 = 0 then some ((-1), V) else ((f_X4_copy V).bind fun V7 => ((rd 236 (V7 1) (1 + p1)).bind fun x8 => ((wr 236 V7 1 (1 + p1) p2).bind fun V9 => (b2 (f_X4_recorded V9 x8) fun x10 V10 => some (x10, V10)))))))))))
noncomputable def f_X4_possibleIn_L23 : Nat → Int32 → Int32 → Int32 → FV → Option (Int32 × FV)
  | 0 => fun _ _ _ _ => none
  | n + 1 => fun y1 y2 y3 V => (if 300 < y3 then ((f_X4_back V).bind fun V7 => (if y3 ≤ 300 then some (y3, V7) else some ((-4), V7))) else ((f_X4_ableOf V y1).bind fun x9 => (if y2 ≤ x9 then ((f_X4_back V).bind fun V11 => (if y3 ≤ 300 then some (y3, V11) else some ((-4), V11))) else ((f_X4_ticks V).bind fun V13 => (f_X4_possibleIn_L23 n y1 y2 (y3 + 1) V13)))))
noncomputable def f_X4_possibleIn (V : FV) (p1 : Int32) (p2 : Int32) : Option (Int32 × FV) := ((f_X4_isWell V p1).bind fun x1 => (if x1 = 0 then some ((-1), V) else ((f_X4_isDraw p2).bind fun x3 => (if x3 = 0 then some ((-1), V) else ((f_X4_copy V).bind fun V5 => (f_X4_possibleIn_L23 FUEL p1 p2 0 V5))))))
noncomputable def f_X4_waterIn_L27 : Nat → Int32 → Int32 → Int32 → FV → Option (Int32 × FV)
  | 0 => fun _ _ _ _ => none
  | n + 1 => fun y1 y2 y3 V => (if y2 ≤ y3 then ((f_X4_of V y1 4).bind fun x7 => ((f_X4_back V).bind fun V8 => some (x7, V8))) else ((f_X4_ticks V).bind fun V9 => (f_X4_waterIn_L27 n y1 y2 (y3 + 1) V9)))
noncomputable def f_X4_waterIn (V : FV) (p1 : Int32) (p2 : Int32) : Option (Int32 × FV) := ((f_X4_isWell V p1).bind fun x1 => (if x1 = 0 then some ((-1), V) else ((f_X4_in p2 0 300).bind fun x3 => (if x3 = 0 then some ((-1), V) else ((f_X4_copy V).bind fun V5 => (f_X4_waterIn_L27 FUEL p1 p2 0 V5))))))
noncomputable def f_X4_lenders (V : FV) : Option (Int32 × FV) := ((f_X4_copy V).bind fun V1 => (b2 (f_X4_lends V1) fun x2 V2 => ((f_X4_back V2).bind fun V3 => some (x2, V3))))
noncomputable def f_X4_type (V : FV) (p1 : Int32) : Option (Int32 × FV) := ((f_X4_in p1 32 126).bind fun x1 => (if x1 = 0 then some ((-1), V) else (if (V 0 2) = 60 then some ((-3), V) else ((wr 60 V 4 (V 0 2) p1).bind fun V4 => (lt1 (st V4 0 2 ((V4 0 2) + 1)) fun V5 => some (V5 0 2, V5))))))
noncomputable def f_X4_clearText (V : FV) : Option (Int32 × FV) := (lt1 (st V 0 2 0) fun V1 => some (V 0 2, V1))
noncomputable def f_X4_reads_L16 (k2 : Int32 → Int32 → FV → Option (Int32 × FV)) : Nat → Int32 → Int32 → Int32 → FV → Option (Int32 × FV)
  | 0 => fun _ _ _ _ => none
  | n + 1 => fun y1 y2 y3 V => (if 3 ≤ y3 then (if y3 = 0 then some (0, V) else ((f_X4_here V).bind fun x5 => (if y2 = (y1 - 1) then (if x5 = 59 then (lt1 (st V 0 3 ((V 0 3) + 1)) fun V10 => (k2 y1 (y2 + 1) V10)) else some (0, V)) else (if x5 = 44 then (lt1 (st V 0 3 ((V 0 3) + 1)) fun V8 => (k2 y1 (y2 + 1) V8)) else some (0, V))))) else ((f_X4_here V).bind fun x11 => ((f_X4_in x11 48 57).bind fun x12 => (if x12 = 0 then (if y3 = 0 then some (0, V) else ((f_X4_here V).bind fun x15 => (if y2 = (y1 - 1) then (if x15 = 59 then (lt1 (st V 0 3 ((V 0 3) + 1)) fun V20 => (k2 y1 (y2 + 1) V20)) else some (0, V)) else (if x15 = 44 then (lt1 (st V 0 3 ((V 0 3) + 1)) fun V18 => (k2 y1 (y2 + 1) V18)) else some (0, V))))) else ((rd 3 (V 5) y2).bind fun x21 => ((f_X4_here V).bind fun x22 => ((wr 3 V 5 y2 (((10 * x21) + x22) - 48)).bind fun V23 => (lt1 (st V23 0 3 ((V23 0 3) + 1)) fun V24 => (f_X4_reads_L16 k2 n y1 y2 (y3 + 1) V24)))))))))
noncomputable def f_X4_reads_L2 : Nat → Int32 → Int32 → FV → Option (Int32 × FV)
  | 0 => fun _ _ _ => none
  | n + 1 => fun y1 y2 V => (if y1 ≤ y2 then some (1, V) else ((wr 3 V 5 y2 0).bind fun V2 => (f_X4_reads_L16 (f_X4_reads_L2 n) FUEL y1 y2 0 V2)))
noncomputable def f_X4_reads (V : FV) (p1 : Int32) : Option (Int32 × FV) := (f_X4_reads_L2 FUEL p1 0 V)
noncomputable def f_X4_does (V : FV) (p1 : Int32) : Option (Int32 × FV) := (if p1 = 100 then (b2 (f_X4_draws V (V 5 0) (V 5 1)) fun x2 V2 => some (x2, V2)) else if p1 = 114 then (b2 (f_X4_requests V (V 5 0) (V 5 1)) fun x4 V4 => some (x4, V4)) else if p1 = 116 then (b2 (f_X4_passes V (V 5 0)) fun x6 V6 => some (x6, V6)) else (b2 (f_X4_addsDrought V (V 5 0) ((V 1 0) + (V 5 1)) ((V 1 0) + (V 5 2))) fun x7 V7 => some (x7, V7)))
noncomputable def f_X4_order (V : FV) : Option (FV) := ((f_X4_here V).bind fun x1 => (lt1 (st V 0 3 ((V 0 3) + 1)) fun V2 => (if x1 = 100 then (if x1 = 116 then (b2 (f_X4_reads V2 1) fun x24 V24 => (if x24 = 0 then (lt1 (st V24 0 4 1) fun V32 => some V32) else (b2 (f_X4_does V24 x1) fun x26 V26 => (if x26 = ((-1)) then (lt1 (st V26 0 4 2) fun V31 => some V31) else (if 0 ≤ x26 then (lt1 (st V26 0 4 0) fun V29 => some V29) else (lt1 (st V26 0 4 3) fun V30 => some V30)))))) else (if x1 = 110 then (b2 (f_X4_reads V2 3) fun x15 V15 => (if x15 = 0 then (lt1 (st V15 0 4 1) fun V23 => some V23) else (b2 (f_X4_does V15 x1) fun x17 V17 => (if x17 = ((-1)) then (lt1 (st V17 0 4 2) fun V22 => some V22) else (if 0 ≤ x17 then (lt1 (st V17 0 4 0) fun V20 => some V20) else (lt1 (st V17 0 4 3) fun V21 => some V21)))))) else (b2 (f_X4_reads V2 2) fun x6 V6 => (if x6 = 0 then (lt1 (st V6 0 4 1) fun V14 => some V14) else (b2 (f_X4_does V6 x1) fun x8 V8 => (if x8 = ((-1)) then (lt1 (st V8 0 4 2) fun V13 => some V13) else (if 0 ≤ x8 then (lt1 (st V8 0 4 0) fun V11 => some V11) else (lt1 (st V8 0 4 3) fun V12 => some V12)))))))) else (if x1 = 114 then (if x1 = 116 then (b2 (f_X4_reads V2 1) fun x54 V54 => (if x54 = 0 then (lt1 (st V54 0 4 1) fun V62 => some V62) else (b2 (f_X4_does V54 x1) fun x56 V56 => (if x56 = ((-1)) then (lt1 (st V56 0 4 2) fun V61 => some V61) else (if 0 ≤ x56 then (lt1 (st V56 0 4 0) fun V59 => some V59) else (lt1 (st V56 0 4 3) fun V60 => some V60)))))) else (if x1 = 110 then (b2 (f_X4_reads V2 3) fun x45 V45 => (if x45 = 0 then (lt1 (st V45 0 4 1) fun V53 => some V53) else (b2 (f_X4_does V45 x1) fun x47 V47 => (if x47 = ((-1)) then (lt1 (st V47 0 4 2) fun V52 => some V52) else (if 0 ≤ x47 then (lt1 (st V47 0 4 0) fun V50 => some V50) else (lt1 (st V47 0 4 3) fun V51 => some V51)))))) else (b2 (f_X4_reads V2 2) fun x36 V36 => (if x36 = 0 then (lt1 (st V36 0 4 1) fun V44 => some V44) else (b2 (f_X4_does V36 x1) fun x38 V38 => (if x38 = ((-1)) then (lt1 (st V38 0 4 2) fun V43 => some V43) else (if 0 ≤ x38 then (lt1 (st V38 0 4 0) fun V41 => some V41) else (lt1 (st V38 0 4 3) fun V42 => some V42)))))))) else (if x1 = 116 then (if x1 = 116 then (b2 (f_X4_reads V2 1) fun x84 V84 => (if x84 = 0 then (lt1 (st V84 0 4 1) fun V92 => some V92) else (b2 (f_X4_does V84 x1) fun x86 V86 => (if x86 = ((-1)) then (lt1 (st V86 0 4 2) fun V91 => some V91) else (if 0 ≤ x86 then (lt1 (st V86 0 4 0) fun V89 => some V89) else (lt1 (st V86 0 4 3) fun V90 => some V90)))))) else (if x1 = 110 then (b2 (f_X4_reads V2 3) fun x75 V75 => (if x75 = 0 then (lt1 (st V75 0 4 1) fun V83 => some V83) else (b2 (f_X4_does V75 x1) fun x77 V77 => (if x77 = ((-1)) then (lt1 (st V77 0 4 2) fun V82 => some V82) else (if 0 ≤ x77 then (lt1 (st V77 0 4 0) fun V80 => some V80) else (lt1 (st V77 0 4 3) fun V81 => some V81)))))) else (b2 (f_X4_reads V2 2) fun x66 V66 => (if x66 = 0 then (lt1 (st V66 0 4 1) fun V74 => some V74) else (b2 (f_X4_does V66 x1) fun x68 V68 => (if x68 = ((-1)) then (lt1 (st V68 0 4 2) fun V73 => some V73) else (if 0 ≤ x68 then (lt1 (st V68 0 4 0) fun V71 => some V71) else (lt1 (st V68 0 4 3) fun V72 => some V72)))))))) else (if x1 = 110 then (if x1 = 116 then (b2 (f_X4_reads V2 1) fun x115 V115 => (if x115 = 0 then (lt1 (st V115 0 4 1) fun V123 => some V123) else (b2 (f_X4_does V115 x1) fun x117 V117 => (if x117 = ((-1)) then (lt1 (st V117 0 4 2) fun V122 => some V122) else (if 0 ≤ x117 then (lt1 (st V117 0 4 0) fun V120 => some V120) else (lt1 (st V117 0 4 3) fun V121 => some V121)))))) else (if x1 = 110 then (b2 (f_X4_reads V2 3) fun x106 V106 => (if x106 = 0 then (lt1 (st V106 0 4 1) fun V114 => some V114) else (b2 (f_X4_does V106 x1) fun x108 V108 => (if x108 = ((-1)) then (lt1 (st V108 0 4 2) fun V113 => some V113) else (if 0 ≤ x108 then (lt1 (st V108 0 4 0) fun V111 => some V111) else (lt1 (st V108 0 4 3) fun V112 => some V112)))))) else (b2 (f_X4_reads V2 2) fun x97 V97 => (if x97 = 0 then (lt1 (st V97 0 4 1) fun V105 => some V105) else (b2 (f_X4_does V97 x1) fun x99 V99 => (if x99 = ((-1)) then (lt1 (st V99 0 4 2) fun V104 => some V104) else (if 0 ≤ x99 then (lt1 (st V99 0 4 0) fun V102 => some V102) else (lt1 (st V99 0 4 3) fun V103 => some V103)))))))) else (lt1 (st V2 0 4 1) fun V94 => some V94)))))))
noncomputable def f_X4_tries_L15 : Nat → FV → Option (FV)
  | 0 => fun _ => none
  | n + 1 => fun V => (if (V 0 2) ≤ (V 0 3) then some V else (if (V 0 4) = 0 then (lt1 (st V 0 5 (V 0 3)) fun V6 => ((f_X4_order V6).bind fun V7 => (lt1 (st V7 0 6 ((V7 0 6) + 1)) fun V8 => (f_X4_tries_L15 n V8)))) else some V))
noncomputable def f_X4_tries (V : FV) : Option (FV) := (lt1 (st V 0 3 0) fun V1 => (lt1 (st V1 0 6 0) fun V2 => (lt1 (st V2 0 4 0) fun V3 => (f_X4_tries_L15 FUEL V3))))
noncomputable def f_X4_fault (V : FV) (p1 : Int32) : Option (Int32 × FV) := ((f_X4_in p1 0 1).bind fun x1 => (if x1 = 0 then some ((-1), V) else ((f_X4_copy V).bind fun V3 => ((f_X4_tries V3).bind fun V4 => ((f_X4_back V4).bind fun V5 => (if (V5 0 4) = 0 then some ((-4), V5) else (if p1 = 0 then some (V5 0 5, V5) else some (V5 0 4, V5))))))))
noncomputable def f_X4_play (V : FV) : Option (Int32 × FV) := ((f_X4_copy V).bind fun V1 => ((f_X4_tries V1).bind fun V2 => (if (V2 0 4) = 0 then (b2 (f_X4_recorded V2 (V2 0 6)) fun x4 V4 => some (x4, V4)) else ((f_X4_back V2).bind fun V5 => some ((-2), V5)))))
