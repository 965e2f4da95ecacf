/-! THE CLAIM OUT OF ONE WALK OF THE LAW'S BODY. Your part is whole_start (and what it stands on); all else here is the same for every law, but numbers. -/
def R_law : String := "NoonWellsLaw"
def lw_P (b : Addr) (xs : List Int32) (args : Array Value) (s : State) : Prop := args = #[.ref b] ∧ s.IntsAt b xs ∧ xs.length ≤ 2560 ∧ (Jvm.Cond.and given_1 narrow_1).before args s = true
def lw_Q (_ : Array Value) (s : State) (o : Outcome) (t : State) : Prop := o = .returned (some (.int 1)) ∧ Framed s o t [] 600000 7302250
def lw_Z (below : List Frame) (a : Array Value) (s : State) : State → Prop := fun t => ∃ o, t.status = .running ∧ Ended t below o ∧ lw_Q a s o t
/-- the law's own end, with 1 on the stack, nothing written that was there before, its room as the claim has it -/
theorem lw_ret {p : Program} {l : Launch} {e : Env} {s : State} {m : MethodId} {below : List Frame} {meth : Method} {c : Code} {b : Nat} (hx : p.tables.exec = Jvm.exec) (hb : c.code = code) (hr : meth.sig.returnType = ret) (hlocks : meth.locks = false) {pc : Nat} {H : Heap} {ls : Array Slot} (hdg : decode code pc = .ok (.ireturn, 1)) : W p l e room_1 s m #[Value.ref b] below meth c H [] 600000 7302250 (lw_Z below #[Value.ref b] s) (F0 m pc ls [.int 1]) := by
  intro T hT X
  obtain ⟨fs, hret, hrun, hended, hW, hframe⟩ := X.leave (v := some (.int 1)) (hlocks := hlocks) (fun h => by rw [hr] at h; cases h)
  have hmeth' : T.vm.method? m = some meth := X.method'
  refine ⟨T.setFrames fs, ?_, .returned (some (.int 1)), hrun, hended, rfl, ⟨_, rfl⟩, hW, hframe⟩
  jvm_step X.here [X.here.top, hx, hb, hdg, hmeth', hr, ret, narrow_b1]
  (try refine ⟨rfl, ?_⟩); (try refine ⟨rfl, ?_⟩)
  first | (intro acts; rw [hret _ acts rfl rfl rfl]) | rw [hret _ _ rfl rfl rfl]
  exact Steps.refl _
/-- what holds at the law's entry: the machine, the code, the tables' words (any of lw_tbl by 'hts w (by decide +kernel)'), the script of L ints xs at the cell b, what the Statement gives of the start (any of its parts by flat_of_before) -/
def lw_At (p : Program) (s : State) (m : MethodId) (meth : Method) (c : Code) (b L : Nat) (xs : Nat → Int32) : Prop :=
  p.tables.exec = Jvm.exec ∧ c.code = code ∧ meth.sig.returnType = ret ∧ c.maxLocals = 4 ∧ s.vm.findClass R_law = some m.cls ∧ (∀ w ∈ lw_tbl, w.before #[Value.ref b] s = true) ∧ va_X b L xs s s.heap ∧ b < s.heap.size ∧ meth.locks = false ∧ (Jvm.Cond.and given_1 narrow_1).before #[Value.ref b] s = true
/-! THE LAW: its loop, over any invariant of the two worlds under which each pair of calls answers alike -/
def Sim_well (Inv : FV → FV → (Nat → FV) → FV → FV → Prop) : Prop := ∀ (v1 v2 : FV) (G : Nat → FV) (v3 V : FV), Inv v1 v2 G v3 V → ∀ (x1 x2 x3 x4 : Int32), ∃ (r : Int32) (w1 : FV) (w2 : FV) (G1 : Nat → FV) (w3 : FV) (V1 : FV), f_X3_well v1 v2 G v3 x1 x2 x3 x4 = some (r, w1, w2, G1, w3) ∧ f_X4_well V x1 x2 x3 x4 = some (r, V1) ∧ Inv w1 w2 G1 w3 V1
def Sim_drought (Inv : FV → FV → (Nat → FV) → FV → FV → Prop) : Prop := ∀ (v1 v2 : FV) (G : Nat → FV) (v3 V : FV), Inv v1 v2 G v3 V → ∀ (x1 x2 x3 : Int32), ∃ (r : Int32) (w1 : FV) (w2 : FV) (G1 : Nat → FV) (w3 : FV) (V1 : FV), f_X3_drought v1 v2 G v3 x1 x2 x3 = some (r, w1, w2, G1, w3) ∧ f_X4_drought V x1 x2 x3 = some (r, V1) ∧ Inv w1 w2 G1 w3 V1
def Sim_droughtOf (Inv : FV → FV → (Nat → FV) → FV → FV → Prop) : Prop := ∀ (v1 v2 : FV) (G : Nat → FV) (v3 V : FV), Inv v1 v2 G v3 V → ∀ (x1 x2 : Int32), ∃ (r : Int32), f_X3_droughtOf v1 v2 G v3 x1 x2 = some r ∧ f_X4_droughtOf V x1 x2 = some r ∧ Inv v1 v2 G v3 V
def Sim_wellOf (Inv : FV → FV → (Nat → FV) → FV → FV → Prop) : Prop := ∀ (v1 v2 : FV) (G : Nat → FV) (v3 V : FV), Inv v1 v2 G v3 V → ∀ (x1 x2 : Int32), ∃ (r : Int32), f_X3_wellOf v1 v2 G v3 x1 x2 = some r ∧ f_X4_wellOf V x1 x2 = some r ∧ Inv v1 v2 G v3 V
def Sim_aboveAt (Inv : FV → FV → (Nat → FV) → FV → FV → Prop) : Prop := ∀ (v1 v2 : FV) (G : Nat → FV) (v3 V : FV), Inv v1 v2 G v3 V → ∀ (x1 x2 : Int32), ∃ (r : Int32), f_X3_aboveAt v1 v2 G v3 x1 x2 = some r ∧ f_X4_aboveAt V x1 x2 = some r ∧ Inv v1 v2 G v3 V
def Sim_draw (Inv : FV → FV → (Nat → FV) → FV → FV → Prop) : Prop := ∀ (v1 v2 : FV) (G : Nat → FV) (v3 V : FV), Inv v1 v2 G v3 V → ∀ (x1 x2 : Int32), ∃ (r : Int32) (w1 : FV) (w2 : FV) (G1 : Nat → FV) (w3 : FV) (V1 : FV), f_X3_draw v1 v2 G v3 x1 x2 = some (r, w1, w2, G1, w3) ∧ f_X4_draw V x1 x2 = some (r, V1) ∧ Inv w1 w2 G1 w3 V1
def Sim_request (Inv : FV → FV → (Nat → FV) → FV → FV → Prop) : Prop := ∀ (v1 v2 : FV) (G : Nat → FV) (v3 V : FV), Inv v1 v2 G v3 V → ∀ (x1 x2 : Int32), ∃ (r : Int32) (w1 : FV) (w2 : FV) (G1 : Nat → FV) (w3 : FV) (V1 : FV), f_X3_request v1 v2 G v3 x1 x2 = some (r, w1, w2, G1, w3) ∧ f_X4_request V x1 x2 = some (r, V1) ∧ Inv w1 w2 G1 w3 V1
def Sim_cancel (Inv : FV → FV → (Nat → FV) → FV → FV → Prop) : Prop := ∀ (v1 v2 : FV) (G : Nat → FV) (v3 V : FV), Inv v1 v2 G v3 V → ∀ (x1 : Int32), ∃ (r : Int32) (w1 : FV) (w2 : FV) (G1 : Nat → FV) (w3 : FV) (V1 : FV), f_X3_cancel v1 v2 G v3 x1 = some (r, w1, w2, G1, w3) ∧ f_X4_cancel V x1 = some (r, V1) ∧ Inv w1 w2 G1 w3 V1
def Sim_requestAt (Inv : FV → FV → (Nat → FV) → FV → FV → Prop) : Prop := ∀ (v1 v2 : FV) (G : Nat → FV) (v3 V : FV), Inv v1 v2 G v3 V → ∀ (x1 x2 : Int32), ∃ (r : Int32), f_X3_requestAt v1 v2 G v3 x1 x2 = some r ∧ f_X4_requestAt V x1 x2 = some r ∧ Inv v1 v2 G v3 V
def Sim_tick (Inv : FV → FV → (Nat → FV) → FV → FV → Prop) : Prop := ∀ (v1 v2 : FV) (G : Nat → FV) (v3 V : FV), Inv v1 v2 G v3 V → ∀ (x1 : Int32), ∃ (r : Int32) (w1 : FV) (w2 : FV) (G1 : Nat → FV) (w3 : FV) (V1 : FV), f_X3_tick v1 v2 G v3 x1 = some (r, w1, w2, G1, w3) ∧ f_X4_tick V x1 = some (r, V1) ∧ Inv w1 w2 G1 w3 V1
def Sim_set (Inv : FV → FV → (Nat → FV) → FV → FV → Prop) : Prop := ∀ (v1 v2 : FV) (G : Nat → FV) (v3 V : FV), Inv v1 v2 G v3 V → ∀ (x1 x2 : Int32), ∃ (r : Int32) (w1 : FV) (w2 : FV) (G1 : Nat → FV) (w3 : FV) (V1 : FV), f_X3_set v1 v2 G v3 x1 x2 = some (r, w1, w2, G1, w3) ∧ f_X4_set V x1 x2 = some (r, V1) ∧ Inv w1 w2 G1 w3 V1
def Sim_able (Inv : FV → FV → (Nat → FV) → FV → FV → Prop) : Prop := ∀ (v1 v2 : FV) (G : Nat → FV) (v3 V : FV), Inv v1 v2 G v3 V → ∀ (x1 : Int32), ∃ (r : Int32) (w1 : FV) (w2 : FV) (G1 : Nat → FV) (w3 : FV), f_X3_able v1 v2 G v3 x1 = some (r, w1, w2, G1, w3) ∧ f_X4_able V x1 = some r ∧ Inv w1 w2 G1 w3 V
def Sim_gives (Inv : FV → FV → (Nat → FV) → FV → FV → Prop) : Prop := ∀ (v1 v2 : FV) (G : Nat → FV) (v3 V : FV), Inv v1 v2 G v3 V → ∀ (x1 x2 x3 : Int32), ∃ (r : Int32) (w1 : FV) (w2 : FV) (G1 : Nat → FV) (w3 : FV), f_X3_gives v1 v2 G v3 x1 x2 x3 = some (r, w1, w2, G1, w3) ∧ f_X4_gives V x1 x2 x3 = some r ∧ Inv w1 w2 G1 w3 V
def Sim_possibleIn (Inv : FV → FV → (Nat → FV) → FV → FV → Prop) : Prop := ∀ (v1 v2 : FV) (G : Nat → FV) (v3 V : FV), Inv v1 v2 G v3 V → ∀ (x1 x2 : Int32), ∃ (r : Int32) (w1 : FV) (w2 : FV) (G1 : Nat → FV) (w3 : FV) (V1 : FV), f_X3_possibleIn v1 v2 G v3 x1 x2 = some (r, w1, w2, G1, w3) ∧ f_X4_possibleIn V x1 x2 = some (r, V1) ∧ Inv w1 w2 G1 w3 V1
def Sim_waterIn (Inv : FV → FV → (Nat → FV) → FV → FV → Prop) : Prop := ∀ (v1 v2 : FV) (G : Nat → FV) (v3 V : FV), Inv v1 v2 G v3 V → ∀ (x1 x2 : Int32), ∃ (r : Int32) (w1 : FV) (w2 : FV) (G1 : Nat → FV) (w3 : FV) (V1 : FV), f_X3_waterIn v1 v2 G v3 x1 x2 = some (r, w1, w2, G1, w3) ∧ f_X4_waterIn V x1 x2 = some (r, V1) ∧ Inv w1 w2 G1 w3 V1
def Sim_lenders (Inv : FV → FV → (Nat → FV) → FV → FV → Prop) : Prop := ∀ (v1 v2 : FV) (G : Nat → FV) (v3 V : FV), Inv v1 v2 G v3 V → ∃ (r : Int32) (w1 : FV) (w2 : FV) (G1 : Nat → FV) (w3 : FV) (V1 : FV), f_X3_lenders v1 v2 G v3 = some (r, w1, w2, G1, w3) ∧ f_X4_lenders V = some (r, V1) ∧ Inv w1 w2 G1 w3 V1
def Sim_count (Inv : FV → FV → (Nat → FV) → FV → FV → Prop) : Prop := ∀ (v1 v2 : FV) (G : Nat → FV) (v3 V : FV), Inv v1 v2 G v3 V → ∀ (x1 : Int32), ∃ (r : Int32), f_X3_count v1 v2 G v3 x1 = some r ∧ f_X4_count V x1 = some r ∧ Inv v1 v2 G v3 V
def Sim_undo (Inv : FV → FV → (Nat → FV) → FV → FV → Prop) : Prop := ∀ (v1 v2 : FV) (G : Nat → FV) (v3 V : FV), Inv v1 v2 G v3 V → ∃ (r : Int32) (w1 : FV) (w2 : FV) (G1 : Nat → FV) (w3 : FV) (V1 : FV), f_X3_undo v1 v2 G v3 = some (r, w1, w2, G1, w3) ∧ f_X4_undo V = some (r, V1) ∧ Inv w1 w2 G1 w3 V1
def Sim_type (Inv : FV → FV → (Nat → FV) → FV → FV → Prop) : Prop := ∀ (v1 v2 : FV) (G : Nat → FV) (v3 V : FV), Inv v1 v2 G v3 V → ∀ (x1 : Int32), ∃ (r : Int32) (w1 : FV) (w2 : FV) (G1 : Nat → FV) (w3 : FV) (V1 : FV), f_X3_type v1 v2 G v3 x1 = some (r, w1, w2, G1, w3) ∧ f_X4_type V x1 = some (r, V1) ∧ Inv w1 w2 G1 w3 V1
def Sim_clearText (Inv : FV → FV → (Nat → FV) → FV → FV → Prop) : Prop := ∀ (v1 v2 : FV) (G : Nat → FV) (v3 V : FV), Inv v1 v2 G v3 V → ∃ (r : Int32) (w1 : FV) (w2 : FV) (G1 : Nat → FV) (w3 : FV) (V1 : FV), f_X3_clearText v1 v2 G v3 = some (r, w1, w2, G1, w3) ∧ f_X4_clearText V = some (r, V1) ∧ Inv w1 w2 G1 w3 V1
def Sim_fault (Inv : FV → FV → (Nat → FV) → FV → FV → Prop) : Prop := ∀ (v1 v2 : FV) (G : Nat → FV) (v3 V : FV), Inv v1 v2 G v3 V → ∀ (x1 : Int32), ∃ (r : Int32) (w1 : FV) (w2 : FV) (G1 : Nat → FV) (w3 : FV) (V1 : FV), f_X3_fault v1 v2 G v3 x1 = some (r, w1, w2, G1, w3) ∧ f_X4_fault V x1 = some (r, V1) ∧ Inv w1 w2 G1 w3 V1
def Sim_play (Inv : FV → FV → (Nat → FV) → FV → FV → Prop) : Prop := ∀ (v1 v2 : FV) (G : Nat → FV) (v3 V : FV), Inv v1 v2 G v3 V → ∃ (r : Int32) (w1 : FV) (w2 : FV) (G1 : Nat → FV) (w3 : FV) (V1 : FV), f_X3_play v1 v2 G v3 = some (r, w1, w2, G1, w3) ∧ f_X4_play V = some (r, V1) ∧ Inv w1 w2 G1 w3 V1
def SimAll (Inv : FV → FV → (Nat → FV) → FV → FV → Prop) : Prop := Sim_well Inv ∧ Sim_drought Inv ∧ Sim_droughtOf Inv ∧ Sim_wellOf Inv ∧ Sim_aboveAt Inv ∧ Sim_draw Inv ∧ Sim_request Inv ∧ Sim_cancel Inv ∧ Sim_requestAt Inv ∧ Sim_tick Inv ∧ Sim_set Inv ∧ Sim_able Inv ∧ Sim_gives Inv ∧ Sim_possibleIn Inv ∧ Sim_waterIn Inv ∧ Sim_lenders Inv ∧ Sim_count Inv ∧ Sim_undo Inv ∧ Sim_type Inv ∧ Sim_clearText Inv ∧ Sim_fault Inv ∧ Sim_play Inv
theorem law_out {i L : Nat} (hL : L ≤ 2560) (h : L < i + 5) (hi : i < 2 ^ 30 := by omega) : nI L - 5 < nI i := by
  rw [Int32.lt_iff_toInt_lt, show (5 : Int32) = nI 5 from rfl, pk_sub_toInt (by omega) (by omega), nI_toInt (by omega)]
  omega
theorem law_in {i L : Nat} (hL : L ≤ 2560) (h : ¬ nI L - 5 < nI i) (hi : i < 2 ^ 30 := by omega) : i + 5 ≤ L := by
  rw [Int32.lt_iff_toInt_lt, show (5 : Int32) = nI 5 from rfl, pk_sub_toInt (by omega) (by omega), nI_toInt (by omega)] at h
  omega
section GL
variable {p : Program} {l : Launch} {e : Env} {R : Room} {s : State} {m : MethodId} {args : Array Value} {below : List Frame} {meth : Method} {c : Code} {H : Heap} {locs : List Loc} {cells slots : Nat} {Q : State → Prop}
variable {cc : ByteArray} {pc : Nat} {ls : Array Slot} {rest : List Value} {A : Nat → Prop} {H0 : Heap}
theorem g_sld (hexec : p.tables.exec = Jvm.exec) (hb : c.code = cc) {b L : Nat} {xs : Nat → Int32} (hX : va_X b L xs s H0) (hbl : b < H0.size) (hbA : ¬ A b) (hS : va_S A H0 H locs) {i x : Int32} (hin : vp_in i L) (hv : xs i.toNatClampNeg = x) (hdg : decode cc pc = .ok (.iaload, 1))
    (kk : W p l e R s m args below meth c H locs cells slots Q (F0 m (pc + 1) ls (.int x :: rest))) : W p l e R s m args below meth c H locs cells slots Q (F0 m pc ls (.int i :: .ref b :: rest)) := by
  subst hv
  exact va_sld hexec hb hX hbl hbA hS hin hdg kk
end GL
set_option maxHeartbeats 40000000 in
set_option maxRecDepth 100000 in
theorem law_loop (Inv : FV → FV → (Nat → FV) → FV → FV → Prop) (hsim : SimAll Inv) {p : Program} {l : Launch} {e : Env} {s : State} {m : MethodId} {below : List Frame} {meth : Method} {c : Code} {D : va_G} {cy : Nat → ClassId} {b L : Nat} {xs : Nat → Int32} (hL : L ≤ 2560) (C0 : lw_At p s m meth c b L xs) (hK : KX D cy s) (aN : Nat → Nat → Nat) (aM : Nat → Nat) :
    ∀ (n i : Nat), L < i + n → i < 3000 → ∀ (v1 v2 : FV) (G : Nat → FV) (v3 V : FV), Inv v1 v2 G v3 V → ∀ (H : Heap) (locs : List Loc) (ls : Array Slot), va_P D vwCl (NW cy aN v1 v2 G v3 ++ MW cy aM V) H → va_D (fun q : Nat => s.heap.size ≤ q) (NW cy aN v1 v2 G v3 ++ MW cy aM V) → va_S (fun q : Nat => s.heap.size ≤ q) s.heap H locs → lv_has ls 4 [(0, .ref b), (1, .ref (aN 0 0)), (2, .ref (aM 0)), (3, .int (nI i))] → W p l e room_1 s m #[Value.ref b] below meth c H locs 600000 7302250 (lw_Z below #[Value.ref b] s) (F0 m 18 ls []) := by
  obtain ⟨hx, hb, hr, hml, hown, hts0, hX, hbl, hlocks, hgv⟩ := C0
  obtain ⟨s_well, s_drought, s_droughtOf, s_wellOf, s_aboveAt, s_draw, s_request, s_cancel, s_requestAt, s_tick, s_set, s_able, s_gives, s_possibleIn, s_waterIn, s_lenders, s_count, s_undo, s_type, s_clearText, s_fault, s_play⟩ := hsim
  have hown : s.vm.findClass RL = some m.cls := hown
  have hts : ∀ w ∈ wsL_law, w.before #[Value.ref b] s = true := fun w h => hts0 w (wsL_law_in w h)
  have hA : ∀ q : Nat, s.heap.size ≤ q → (fun q : Nat => s.heap.size ≤ q) q := fun _ h => h
  have hbA : ¬ (fun q : Nat => s.heap.size ≤ q) b := Nat.not_le.mpr hbl
  intro n
  induction n with
  | zero =>
    intro i h1 h3 v1 v2 G v3 V hI H locs ls hP hD hS hl
    have hlt : nI L - 5 < nI i := by
      exact law_out hL (by omega)
    refine lv_iload_n hx hb dL_law_18 rfl (lv_at hl 3 rfl) ?_
    refine lv_aload_n hx hb dL_law_19 rfl (lv_at hl 0 rfl) ?_
    refine va_slen hx hb hX hbl hbA hS dL_law_20 ?_
    refine lv_iconst (v := 5) hx hb dL_law_21 (by decide) ?_
    refine lv_isub hx hb dL_law_22 ?_
    refine lv_icmp_gt (tgt := 768) hx hb dL_law_23 (by decide) (fun _ => ?_) (fun c1 => absurd hlt c1)
    refine lv_iconst (v := 1) hx hb dL_law_768 (by decide) ?_
    refine va_forget (fun q hq => hS.2.2 q hq) ?_
    exact lw_ret hx hb hr hlocks dL_law_769
  | succ n ih =>
    intro i h1 h3 v1 v2 G v3 V hI H locs ls hP hD hS hl
    refine lv_iload_n hx hb dL_law_18 rfl (lv_at hl 3 rfl) ?_
    refine lv_aload_n hx hb dL_law_19 rfl (lv_at hl 0 rfl) ?_
    refine va_slen hx hb hX hbl hbA hS dL_law_20 ?_
    refine lv_iconst (v := 5) hx hb dL_law_21 (by decide) ?_
    refine lv_isub hx hb dL_law_22 ?_
    refine lv_icmp_gt (tgt := 768) hx hb dL_law_23 (by decide) (fun _ => ?_) (fun c1 => ?_)
    · refine lv_iconst (v := 1) hx hb dL_law_768 (by decide) ?_
      refine va_forget (fun q hq => hS.2.2 q hq) ?_
      exact lw_ret hx hb hr hlocks dL_law_769
    have hi : i + 5 ≤ L := law_in hL c1
    have hin0 : vp_in (nI i) L := vp_in_nI (by omega) (by omega)
    obtain ⟨x0, hx0⟩ : ∃ x, xs (nI i).toNatClampNeg = x := ⟨_, rfl⟩
    have hin1 : vp_in (nI i + 1) L := by rw [show nI i + 1 = nI (i + 1) from nI_add i 1]; exact vp_in_nI (by omega) (by omega)
    obtain ⟨x1, hx1⟩ : ∃ x, xs (nI i + 1).toNatClampNeg = x := ⟨_, rfl⟩
    have hin2 : vp_in (nI i + 2) L := by rw [show nI i + 2 = nI (i + 2) from nI_add i 2]; exact vp_in_nI (by omega) (by omega)
    obtain ⟨x2, hx2⟩ : ∃ x, xs (nI i + 2).toNatClampNeg = x := ⟨_, rfl⟩
    have hin3 : vp_in (nI i + 3) L := by rw [show nI i + 3 = nI (i + 3) from nI_add i 3]; exact vp_in_nI (by omega) (by omega)
    obtain ⟨x3, hx3⟩ : ∃ x, xs (nI i + 3).toNatClampNeg = x := ⟨_, rfl⟩
    have hin4 : vp_in (nI i + 4) L := by rw [show nI i + 4 = nI (i + 4) from nI_add i 4]; exact vp_in_nI (by omega) (by omega)
    obtain ⟨x4, hx4⟩ : ∃ x, xs (nI i + 4).toNatClampNeg = x := ⟨_, rfl⟩
    have next : ∀ (v1 v2 : FV) (G : Nat → FV) (v3 V : FV), Inv v1 v2 G v3 V → ∀ (H : Heap) (locs : List Loc), va_P D vwCl (NW cy aN v1 v2 G v3 ++ MW cy aM V) H → va_D (fun q : Nat => s.heap.size ≤ q) (NW cy aN v1 v2 G v3 ++ MW cy aM V) → va_S (fun q : Nat => s.heap.size ≤ q) s.heap H locs → W p l e room_1 s m #[Value.ref b] below meth c H locs 600000 7302250 (lw_Z below #[Value.ref b] s) (F0 m 762 ls []) := by
      intro v1 v2 G v3 V hI H locs hP hD hS
      refine lv_iinc (v := nI (i + 5)) (lv' := [(3, .int (nI (i + 5))), (0, .ref b), (1, .ref (aN 0 0)), (2, .ref (aM 0))]) hx hb dL_law_762 hl (k := 3) rfl (nI_add i 5) (by decide) rfl (fun ls hl => ?_)
      refine lv_goto (tgt := 18) hx hb dL_law_765 (by decide) ?_
      exact ih (i + 5) (by omega) (by omega) v1 v2 G v3 V hI H locs ls hP hD hS (lv_sub hl [1, 2, 3, 0] rfl)
    refine lv_aload_n hx hb dL_law_26 rfl (lv_at hl 0 rfl) ?_
    refine lv_iload_n hx hb dL_law_27 rfl (lv_at hl 3 rfl) ?_
    refine g_sld (x := x0) hx hb hX hbl hbA hS hin0 hx0 dL_law_28 ?_
    refine lv_bipush (v := 31) hx hb dL_law_29 (by decide +kernel) ?_
    refine lv_iand hx hb dL_law_31 ?_
    by_cases c0 : x0 &&& 31 = 0
    · refine lv_tableIn (off := 104) (tgt := 136) hx hb dL_law_32 (by rw [c0]; decide) (by rw [c0]; decide) (by rw [c0]; rfl) (by decide) ?_
      obtain ⟨r, w1, w2, G1, w3, V1, q1, q2, hI1⟩ := s_well v1 v2 G v3 V hI x1 x2 x3 x4
      refine lv_aload_n hx hb dL_law_136 rfl (lv_at hl 1 rfl) ?_
      refine lv_aload_n hx hb dL_law_137 rfl (lv_at hl 0 rfl) ?_
      refine lv_iload_n hx hb dL_law_138 rfl (lv_at hl 3 rfl) ?_
      refine lv_iconst (v := 1) hx hb dL_law_139 (by decide) ?_
      refine lv_iadd hx hb dL_law_140 ?_
      refine g_sld (x := x1) hx hb hX hbl hbA hS hin1 hx1 dL_law_141 ?_
      refine lv_aload_n hx hb dL_law_142 rfl (lv_at hl 0 rfl) ?_
      refine lv_iload_n hx hb dL_law_143 rfl (lv_at hl 3 rfl) ?_
      refine lv_iconst (v := 2) hx hb dL_law_144 (by decide) ?_
      refine lv_iadd hx hb dL_law_145 ?_
      refine g_sld (x := x2) hx hb hX hbl hbA hS hin2 hx2 dL_law_146 ?_
      refine lv_aload_n hx hb dL_law_147 rfl (lv_at hl 0 rfl) ?_
      refine lv_iload_n hx hb dL_law_148 rfl (lv_at hl 3 rfl) ?_
      refine lv_iconst (v := 3) hx hb dL_law_149 (by decide) ?_
      refine lv_iadd hx hb dL_law_150 ?_
      refine g_sld (x := x3) hx hb hX hbl hbA hS hin3 hx3 dL_law_151 ?_
      refine lv_aload_n hx hb dL_law_152 rfl (lv_at hl 0 rfl) ?_
      refine lv_iload_n hx hb dL_law_153 rfl (lv_at hl 3 rfl) ?_
      refine lv_iconst (v := 4) hx hb dL_law_154 (by decide) ?_
      refine lv_iadd hx hb dL_law_155 ?_
      refine g_sld (x := x4) hx hb hX hbl hbA hS hin4 hx4 dL_law_156 ?_
      refine gc_VI (n := 4) (q0 := 0) (ci := 3) (w' := NW cy aN w1 w2 G1 w3 ++ MW cy aM V) hx hb hml hown hts hK hP hD hS hA hl.1 ⟨Nat.le_refl _, Nat.le_refl _⟩ (C_X3_well l D cy aN v1 v2 G v3 x1 x2 x3 x4 r w1 w2 G1 w3 q1) gL_law_X3_well rfl (by decide +kernel) rfl ⟨by decide, by decide⟩ (Jn.perm (List.Perm.refl _) (List.Perm.refl _)) rfl rfl rfl (Nat.le_of_ble_eq_true rfl) dL_law_157 (fun H locs hP hD hS => ?_)
      refine lv_aload_n hx hb dL_law_160 rfl (lv_at hl 2 rfl) ?_
      refine lv_aload_n hx hb dL_law_161 rfl (lv_at hl 0 rfl) ?_
      refine lv_iload_n hx hb dL_law_162 rfl (lv_at hl 3 rfl) ?_
      refine lv_iconst (v := 1) hx hb dL_law_163 (by decide) ?_
      refine lv_iadd hx hb dL_law_164 ?_
      refine g_sld (x := x1) hx hb hX hbl hbA hS hin1 hx1 dL_law_165 ?_
      refine lv_aload_n hx hb dL_law_166 rfl (lv_at hl 0 rfl) ?_
      refine lv_iload_n hx hb dL_law_167 rfl (lv_at hl 3 rfl) ?_
      refine lv_iconst (v := 2) hx hb dL_law_168 (by decide) ?_
      refine lv_iadd hx hb dL_law_169 ?_
      refine g_sld (x := x2) hx hb hX hbl hbA hS hin2 hx2 dL_law_170 ?_
      refine lv_aload_n hx hb dL_law_171 rfl (lv_at hl 0 rfl) ?_
      refine lv_iload_n hx hb dL_law_172 rfl (lv_at hl 3 rfl) ?_
      refine lv_iconst (v := 3) hx hb dL_law_173 (by decide) ?_
      refine lv_iadd hx hb dL_law_174 ?_
      refine g_sld (x := x3) hx hb hX hbl hbA hS hin3 hx3 dL_law_175 ?_
      refine lv_aload_n hx hb dL_law_176 rfl (lv_at hl 0 rfl) ?_
      refine lv_iload_n hx hb dL_law_177 rfl (lv_at hl 3 rfl) ?_
      refine lv_iconst (v := 4) hx hb dL_law_178 (by decide) ?_
      refine lv_iadd hx hb dL_law_179 ?_
      refine g_sld (x := x4) hx hb hX hbl hbA hS hin4 hx4 dL_law_180 ?_
      refine gc_VI (n := 4) (q0 := 0) (ci := 4) (w' := NW cy aN w1 w2 G1 w3 ++ MW cy aM V1) hx hb hml hown hts hK hP hD hS hA hl.1 ⟨Nat.le_refl _, Nat.le_refl _⟩ (C_X4_well l D cy aM V x1 x2 x3 x4 r V1 q2) gL_law_X4_well rfl (by decide +kernel) rfl ⟨by decide, by decide⟩ (Jn.perm List.perm_append_comm List.perm_append_comm) rfl rfl rfl (Nat.le_of_ble_eq_true rfl) dL_law_181 (fun H locs hP hD hS => ?_)
      refine lv_icmp_eq (tgt := 762) hx hb dL_law_184 (by decide) (fun _ => ?_) (fun c9 => absurd rfl c9)
      exact next w1 w2 G1 w3 V1 hI1 H locs hP hD hS
    by_cases c1 : x0 &&& 31 = 1
    · refine lv_tableIn (off := 157) (tgt := 189) hx hb dL_law_32 (by rw [c1]; decide) (by rw [c1]; decide) (by rw [c1]; rfl) (by decide) ?_
      obtain ⟨r, w1, w2, G1, w3, V1, q1, q2, hI1⟩ := s_drought v1 v2 G v3 V hI x1 x2 x3
      refine lv_aload_n hx hb dL_law_189 rfl (lv_at hl 1 rfl) ?_
      refine lv_aload_n hx hb dL_law_190 rfl (lv_at hl 0 rfl) ?_
      refine lv_iload_n hx hb dL_law_191 rfl (lv_at hl 3 rfl) ?_
      refine lv_iconst (v := 1) hx hb dL_law_192 (by decide) ?_
      refine lv_iadd hx hb dL_law_193 ?_
      refine g_sld (x := x1) hx hb hX hbl hbA hS hin1 hx1 dL_law_194 ?_
      refine lv_aload_n hx hb dL_law_195 rfl (lv_at hl 0 rfl) ?_
      refine lv_iload_n hx hb dL_law_196 rfl (lv_at hl 3 rfl) ?_
      refine lv_iconst (v := 2) hx hb dL_law_197 (by decide) ?_
      refine lv_iadd hx hb dL_law_198 ?_
      refine g_sld (x := x2) hx hb hX hbl hbA hS hin2 hx2 dL_law_199 ?_
      refine lv_aload_n hx hb dL_law_200 rfl (lv_at hl 0 rfl) ?_
      refine lv_iload_n hx hb dL_law_201 rfl (lv_at hl 3 rfl) ?_
      refine lv_iconst (v := 3) hx hb dL_law_202 (by decide) ?_
      refine lv_iadd hx hb dL_law_203 ?_
      refine g_sld (x := x3) hx hb hX hbl hbA hS hin3 hx3 dL_law_204 ?_
      refine gc_VI (n := 3) (q0 := 0) (ci := 3) (w' := NW cy aN w1 w2 G1 w3 ++ MW cy aM V) hx hb hml hown hts hK hP hD hS hA hl.1 ⟨Nat.le_refl _, Nat.le_refl _⟩ (C_X3_drought l D cy aN v1 v2 G v3 x1 x2 x3 r w1 w2 G1 w3 q1) gL_law_X3_drought rfl (by decide +kernel) rfl ⟨by decide, by decide⟩ (Jn.perm (List.Perm.refl _) (List.Perm.refl _)) rfl rfl rfl (Nat.le_of_ble_eq_true rfl) dL_law_205 (fun H locs hP hD hS => ?_)
      refine lv_aload_n hx hb dL_law_208 rfl (lv_at hl 2 rfl) ?_
      refine lv_aload_n hx hb dL_law_209 rfl (lv_at hl 0 rfl) ?_
      refine lv_iload_n hx hb dL_law_210 rfl (lv_at hl 3 rfl) ?_
      refine lv_iconst (v := 1) hx hb dL_law_211 (by decide) ?_
      refine lv_iadd hx hb dL_law_212 ?_
      refine g_sld (x := x1) hx hb hX hbl hbA hS hin1 hx1 dL_law_213 ?_
      refine lv_aload_n hx hb dL_law_214 rfl (lv_at hl 0 rfl) ?_
      refine lv_iload_n hx hb dL_law_215 rfl (lv_at hl 3 rfl) ?_
      refine lv_iconst (v := 2) hx hb dL_law_216 (by decide) ?_
      refine lv_iadd hx hb dL_law_217 ?_
      refine g_sld (x := x2) hx hb hX hbl hbA hS hin2 hx2 dL_law_218 ?_
      refine lv_aload_n hx hb dL_law_219 rfl (lv_at hl 0 rfl) ?_
      refine lv_iload_n hx hb dL_law_220 rfl (lv_at hl 3 rfl) ?_
      refine lv_iconst (v := 3) hx hb dL_law_221 (by decide) ?_
      refine lv_iadd hx hb dL_law_222 ?_
      refine g_sld (x := x3) hx hb hX hbl hbA hS hin3 hx3 dL_law_223 ?_
      refine gc_VI (n := 3) (q0 := 0) (ci := 4) (w' := NW cy aN w1 w2 G1 w3 ++ MW cy aM V1) hx hb hml hown hts hK hP hD hS hA hl.1 ⟨Nat.le_refl _, Nat.le_refl _⟩ (C_X4_drought l D cy aM V x1 x2 x3 r V1 q2) gL_law_X4_drought rfl (by decide +kernel) rfl ⟨by decide, by decide⟩ (Jn.perm List.perm_append_comm List.perm_append_comm) rfl rfl rfl (Nat.le_of_ble_eq_true rfl) dL_law_224 (fun H locs hP hD hS => ?_)
      refine lv_icmp_eq (tgt := 762) hx hb dL_law_227 (by decide) (fun _ => ?_) (fun c9 => absurd rfl c9)
      exact next w1 w2 G1 w3 V1 hI1 H locs hP hD hS
    by_cases c2 : x0 &&& 31 = 2
    · refine lv_tableIn (off := 200) (tgt := 232) hx hb dL_law_32 (by rw [c2]; decide) (by rw [c2]; decide) (by rw [c2]; rfl) (by decide) ?_
      obtain ⟨r, q1, q2, hI1⟩ := s_droughtOf v1 v2 G v3 V hI x1 x2
      refine lv_aload_n hx hb dL_law_232 rfl (lv_at hl 1 rfl) ?_
      refine lv_aload_n hx hb dL_law_233 rfl (lv_at hl 0 rfl) ?_
      refine lv_iload_n hx hb dL_law_234 rfl (lv_at hl 3 rfl) ?_
      refine lv_iconst (v := 1) hx hb dL_law_235 (by decide) ?_
      refine lv_iadd hx hb dL_law_236 ?_
      refine g_sld (x := x1) hx hb hX hbl hbA hS hin1 hx1 dL_law_237 ?_
      refine lv_aload_n hx hb dL_law_238 rfl (lv_at hl 0 rfl) ?_
      refine lv_iload_n hx hb dL_law_239 rfl (lv_at hl 3 rfl) ?_
      refine lv_iconst (v := 2) hx hb dL_law_240 (by decide) ?_
      refine lv_iadd hx hb dL_law_241 ?_
      refine g_sld (x := x2) hx hb hX hbl hbA hS hin2 hx2 dL_law_242 ?_
      refine gc_VI (n := 2) (q0 := 0) (ci := 3) (w' := NW cy aN v1 v2 G v3 ++ MW cy aM V) hx hb hml hown hts hK hP hD hS hA hl.1 ⟨Nat.le_refl _, Nat.le_refl _⟩ (C_X3_droughtOf l D cy aN v1 v2 G v3 x1 x2 r q1) gL_law_X3_droughtOf rfl (by decide +kernel) rfl ⟨by decide, by decide⟩ (Jn.perm (List.Perm.refl _) (List.Perm.refl _)) rfl rfl rfl (Nat.le_of_ble_eq_true rfl) dL_law_243 (fun H locs hP hD hS => ?_)
      refine lv_aload_n hx hb dL_law_246 rfl (lv_at hl 2 rfl) ?_
      refine lv_aload_n hx hb dL_law_247 rfl (lv_at hl 0 rfl) ?_
      refine lv_iload_n hx hb dL_law_248 rfl (lv_at hl 3 rfl) ?_
      refine lv_iconst (v := 1) hx hb dL_law_249 (by decide) ?_
      refine lv_iadd hx hb dL_law_250 ?_
      refine g_sld (x := x1) hx hb hX hbl hbA hS hin1 hx1 dL_law_251 ?_
      refine lv_aload_n hx hb dL_law_252 rfl (lv_at hl 0 rfl) ?_
      refine lv_iload_n hx hb dL_law_253 rfl (lv_at hl 3 rfl) ?_
      refine lv_iconst (v := 2) hx hb dL_law_254 (by decide) ?_
      refine lv_iadd hx hb dL_law_255 ?_
      refine g_sld (x := x2) hx hb hX hbl hbA hS hin2 hx2 dL_law_256 ?_
      refine gc_VI (n := 2) (q0 := 0) (ci := 4) (w' := NW cy aN v1 v2 G v3 ++ MW cy aM V) hx hb hml hown hts hK hP hD hS hA hl.1 ⟨Nat.le_refl _, Nat.le_refl _⟩ (C_X4_droughtOf l D cy aM V x1 x2 r q2) gL_law_X4_droughtOf rfl (by decide +kernel) rfl ⟨by decide, by decide⟩ (Jn.perm List.perm_append_comm List.perm_append_comm) rfl rfl rfl (Nat.le_of_ble_eq_true rfl) dL_law_257 (fun H locs hP hD hS => ?_)
      refine lv_icmp_eq (tgt := 762) hx hb dL_law_260 (by decide) (fun _ => ?_) (fun c9 => absurd rfl c9)
      exact next v1 v2 G v3 V hI1 H locs hP hD hS
    by_cases c3 : x0 &&& 31 = 3
    · refine lv_tableIn (off := 233) (tgt := 265) hx hb dL_law_32 (by rw [c3]; decide) (by rw [c3]; decide) (by rw [c3]; rfl) (by decide) ?_
      obtain ⟨r, q1, q2, hI1⟩ := s_wellOf v1 v2 G v3 V hI x1 x2
      refine lv_aload_n hx hb dL_law_265 rfl (lv_at hl 1 rfl) ?_
      refine lv_aload_n hx hb dL_law_266 rfl (lv_at hl 0 rfl) ?_
      refine lv_iload_n hx hb dL_law_267 rfl (lv_at hl 3 rfl) ?_
      refine lv_iconst (v := 1) hx hb dL_law_268 (by decide) ?_
      refine lv_iadd hx hb dL_law_269 ?_
      refine g_sld (x := x1) hx hb hX hbl hbA hS hin1 hx1 dL_law_270 ?_
      refine lv_aload_n hx hb dL_law_271 rfl (lv_at hl 0 rfl) ?_
      refine lv_iload_n hx hb dL_law_272 rfl (lv_at hl 3 rfl) ?_
      refine lv_iconst (v := 2) hx hb dL_law_273 (by decide) ?_
      refine lv_iadd hx hb dL_law_274 ?_
      refine g_sld (x := x2) hx hb hX hbl hbA hS hin2 hx2 dL_law_275 ?_
      refine gc_VI (n := 2) (q0 := 0) (ci := 3) (w' := NW cy aN v1 v2 G v3 ++ MW cy aM V) hx hb hml hown hts hK hP hD hS hA hl.1 ⟨Nat.le_refl _, Nat.le_refl _⟩ (C_X3_wellOf l D cy aN v1 v2 G v3 x1 x2 r q1) gL_law_X3_wellOf rfl (by decide +kernel) rfl ⟨by decide, by decide⟩ (Jn.perm (List.Perm.refl _) (List.Perm.refl _)) rfl rfl rfl (Nat.le_of_ble_eq_true rfl) dL_law_276 (fun H locs hP hD hS => ?_)
      refine lv_aload_n hx hb dL_law_279 rfl (lv_at hl 2 rfl) ?_
      refine lv_aload_n hx hb dL_law_280 rfl (lv_at hl 0 rfl) ?_
      refine lv_iload_n hx hb dL_law_281 rfl (lv_at hl 3 rfl) ?_
      refine lv_iconst (v := 1) hx hb dL_law_282 (by decide) ?_
      refine lv_iadd hx hb dL_law_283 ?_
      refine g_sld (x := x1) hx hb hX hbl hbA hS hin1 hx1 dL_law_284 ?_
      refine lv_aload_n hx hb dL_law_285 rfl (lv_at hl 0 rfl) ?_
      refine lv_iload_n hx hb dL_law_286 rfl (lv_at hl 3 rfl) ?_
      refine lv_iconst (v := 2) hx hb dL_law_287 (by decide) ?_
      refine lv_iadd hx hb dL_law_288 ?_
      refine g_sld (x := x2) hx hb hX hbl hbA hS hin2 hx2 dL_law_289 ?_
      refine gc_VI (n := 2) (q0 := 0) (ci := 4) (w' := NW cy aN v1 v2 G v3 ++ MW cy aM V) hx hb hml hown hts hK hP hD hS hA hl.1 ⟨Nat.le_refl _, Nat.le_refl _⟩ (C_X4_wellOf l D cy aM V x1 x2 r q2) gL_law_X4_wellOf rfl (by decide +kernel) rfl ⟨by decide, by decide⟩ (Jn.perm List.perm_append_comm List.perm_append_comm) rfl rfl rfl (Nat.le_of_ble_eq_true rfl) dL_law_290 (fun H locs hP hD hS => ?_)
      refine lv_icmp_eq (tgt := 762) hx hb dL_law_293 (by decide) (fun _ => ?_) (fun c9 => absurd rfl c9)
      exact next v1 v2 G v3 V hI1 H locs hP hD hS
    by_cases c4 : x0 &&& 31 = 4
    · refine lv_tableIn (off := 266) (tgt := 298) hx hb dL_law_32 (by rw [c4]; decide) (by rw [c4]; decide) (by rw [c4]; rfl) (by decide) ?_
      obtain ⟨r, q1, q2, hI1⟩ := s_aboveAt v1 v2 G v3 V hI x1 x2
      refine lv_aload_n hx hb dL_law_298 rfl (lv_at hl 1 rfl) ?_
      refine lv_aload_n hx hb dL_law_299 rfl (lv_at hl 0 rfl) ?_
      refine lv_iload_n hx hb dL_law_300 rfl (lv_at hl 3 rfl) ?_
      refine lv_iconst (v := 1) hx hb dL_law_301 (by decide) ?_
      refine lv_iadd hx hb dL_law_302 ?_
      refine g_sld (x := x1) hx hb hX hbl hbA hS hin1 hx1 dL_law_303 ?_
      refine lv_aload_n hx hb dL_law_304 rfl (lv_at hl 0 rfl) ?_
      refine lv_iload_n hx hb dL_law_305 rfl (lv_at hl 3 rfl) ?_
      refine lv_iconst (v := 2) hx hb dL_law_306 (by decide) ?_
      refine lv_iadd hx hb dL_law_307 ?_
      refine g_sld (x := x2) hx hb hX hbl hbA hS hin2 hx2 dL_law_308 ?_
      refine gc_VI (n := 2) (q0 := 0) (ci := 3) (w' := NW cy aN v1 v2 G v3 ++ MW cy aM V) hx hb hml hown hts hK hP hD hS hA hl.1 ⟨Nat.le_refl _, Nat.le_refl _⟩ (C_X3_aboveAt l D cy aN v1 v2 G v3 x1 x2 r q1) gL_law_X3_aboveAt rfl (by decide +kernel) rfl ⟨by decide, by decide⟩ (Jn.perm (List.Perm.refl _) (List.Perm.refl _)) rfl rfl rfl (Nat.le_of_ble_eq_true rfl) dL_law_309 (fun H locs hP hD hS => ?_)
      refine lv_aload_n hx hb dL_law_312 rfl (lv_at hl 2 rfl) ?_
      refine lv_aload_n hx hb dL_law_313 rfl (lv_at hl 0 rfl) ?_
      refine lv_iload_n hx hb dL_law_314 rfl (lv_at hl 3 rfl) ?_
      refine lv_iconst (v := 1) hx hb dL_law_315 (by decide) ?_
      refine lv_iadd hx hb dL_law_316 ?_
      refine g_sld (x := x1) hx hb hX hbl hbA hS hin1 hx1 dL_law_317 ?_
      refine lv_aload_n hx hb dL_law_318 rfl (lv_at hl 0 rfl) ?_
      refine lv_iload_n hx hb dL_law_319 rfl (lv_at hl 3 rfl) ?_
      refine lv_iconst (v := 2) hx hb dL_law_320 (by decide) ?_
      refine lv_iadd hx hb dL_law_321 ?_
      refine g_sld (x := x2) hx hb hX hbl hbA hS hin2 hx2 dL_law_322 ?_
      refine gc_VI (n := 2) (q0 := 0) (ci := 4) (w' := NW cy aN v1 v2 G v3 ++ MW cy aM V) hx hb hml hown hts hK hP hD hS hA hl.1 ⟨Nat.le_refl _, Nat.le_refl _⟩ (C_X4_aboveAt l D cy aM V x1 x2 r q2) gL_law_X4_aboveAt rfl (by decide +kernel) rfl ⟨by decide, by decide⟩ (Jn.perm List.perm_append_comm List.perm_append_comm) rfl rfl rfl (Nat.le_of_ble_eq_true rfl) dL_law_323 (fun H locs hP hD hS => ?_)
      refine lv_icmp_eq (tgt := 762) hx hb dL_law_326 (by decide) (fun _ => ?_) (fun c9 => absurd rfl c9)
      exact next v1 v2 G v3 V hI1 H locs hP hD hS
    by_cases c5 : x0 &&& 31 = 5
    · refine lv_tableIn (off := 299) (tgt := 331) hx hb dL_law_32 (by rw [c5]; decide) (by rw [c5]; decide) (by rw [c5]; rfl) (by decide) ?_
      obtain ⟨r, w1, w2, G1, w3, V1, q1, q2, hI1⟩ := s_draw v1 v2 G v3 V hI x1 x2
      refine lv_aload_n hx hb dL_law_331 rfl (lv_at hl 1 rfl) ?_
      refine lv_aload_n hx hb dL_law_332 rfl (lv_at hl 0 rfl) ?_
      refine lv_iload_n hx hb dL_law_333 rfl (lv_at hl 3 rfl) ?_
      refine lv_iconst (v := 1) hx hb dL_law_334 (by decide) ?_
      refine lv_iadd hx hb dL_law_335 ?_
      refine g_sld (x := x1) hx hb hX hbl hbA hS hin1 hx1 dL_law_336 ?_
      refine lv_aload_n hx hb dL_law_337 rfl (lv_at hl 0 rfl) ?_
      refine lv_iload_n hx hb dL_law_338 rfl (lv_at hl 3 rfl) ?_
      refine lv_iconst (v := 2) hx hb dL_law_339 (by decide) ?_
      refine lv_iadd hx hb dL_law_340 ?_
      refine g_sld (x := x2) hx hb hX hbl hbA hS hin2 hx2 dL_law_341 ?_
      refine gc_VI (n := 2) (q0 := 0) (ci := 3) (w' := NW cy aN w1 w2 G1 w3 ++ MW cy aM V) hx hb hml hown hts hK hP hD hS hA hl.1 ⟨Nat.le_refl _, Nat.le_refl _⟩ (C_X3_draw l D cy aN v1 v2 G v3 x1 x2 r w1 w2 G1 w3 q1) gL_law_X3_draw rfl (by decide +kernel) rfl ⟨by decide, by decide⟩ (Jn.perm (List.Perm.refl _) (List.Perm.refl _)) rfl rfl rfl (Nat.le_of_ble_eq_true rfl) dL_law_342 (fun H locs hP hD hS => ?_)
      refine lv_aload_n hx hb dL_law_345 rfl (lv_at hl 2 rfl) ?_
      refine lv_aload_n hx hb dL_law_346 rfl (lv_at hl 0 rfl) ?_
      refine lv_iload_n hx hb dL_law_347 rfl (lv_at hl 3 rfl) ?_
      refine lv_iconst (v := 1) hx hb dL_law_348 (by decide) ?_
      refine lv_iadd hx hb dL_law_349 ?_
      refine g_sld (x := x1) hx hb hX hbl hbA hS hin1 hx1 dL_law_350 ?_
      refine lv_aload_n hx hb dL_law_351 rfl (lv_at hl 0 rfl) ?_
      refine lv_iload_n hx hb dL_law_352 rfl (lv_at hl 3 rfl) ?_
      refine lv_iconst (v := 2) hx hb dL_law_353 (by decide) ?_
      refine lv_iadd hx hb dL_law_354 ?_
      refine g_sld (x := x2) hx hb hX hbl hbA hS hin2 hx2 dL_law_355 ?_
      refine gc_VI (n := 2) (q0 := 0) (ci := 4) (w' := NW cy aN w1 w2 G1 w3 ++ MW cy aM V1) hx hb hml hown hts hK hP hD hS hA hl.1 ⟨Nat.le_refl _, Nat.le_refl _⟩ (C_X4_draw l D cy aM V x1 x2 r V1 q2) gL_law_X4_draw rfl (by decide +kernel) rfl ⟨by decide, by decide⟩ (Jn.perm List.perm_append_comm List.perm_append_comm) rfl rfl rfl (Nat.le_of_ble_eq_true rfl) dL_law_356 (fun H locs hP hD hS => ?_)
      refine lv_icmp_eq (tgt := 762) hx hb dL_law_359 (by decide) (fun _ => ?_) (fun c9 => absurd rfl c9)
      exact next w1 w2 G1 w3 V1 hI1 H locs hP hD hS
    by_cases c6 : x0 &&& 31 = 6
    · refine lv_tableIn (off := 332) (tgt := 364) hx hb dL_law_32 (by rw [c6]; decide) (by rw [c6]; decide) (by rw [c6]; rfl) (by decide) ?_
      obtain ⟨r, w1, w2, G1, w3, V1, q1, q2, hI1⟩ := s_request v1 v2 G v3 V hI x1 x2
      refine lv_aload_n hx hb dL_law_364 rfl (lv_at hl 1 rfl) ?_
      refine lv_aload_n hx hb dL_law_365 rfl (lv_at hl 0 rfl) ?_
      refine lv_iload_n hx hb dL_law_366 rfl (lv_at hl 3 rfl) ?_
      refine lv_iconst (v := 1) hx hb dL_law_367 (by decide) ?_
      refine lv_iadd hx hb dL_law_368 ?_
      refine g_sld (x := x1) hx hb hX hbl hbA hS hin1 hx1 dL_law_369 ?_
      refine lv_aload_n hx hb dL_law_370 rfl (lv_at hl 0 rfl) ?_
      refine lv_iload_n hx hb dL_law_371 rfl (lv_at hl 3 rfl) ?_
      refine lv_iconst (v := 2) hx hb dL_law_372 (by decide) ?_
      refine lv_iadd hx hb dL_law_373 ?_
      refine g_sld (x := x2) hx hb hX hbl hbA hS hin2 hx2 dL_law_374 ?_
      refine gc_VI (n := 2) (q0 := 0) (ci := 3) (w' := NW cy aN w1 w2 G1 w3 ++ MW cy aM V) hx hb hml hown hts hK hP hD hS hA hl.1 ⟨Nat.le_refl _, Nat.le_refl _⟩ (C_X3_request l D cy aN v1 v2 G v3 x1 x2 r w1 w2 G1 w3 q1) gL_law_X3_request rfl (by decide +kernel) rfl ⟨by decide, by decide⟩ (Jn.perm (List.Perm.refl _) (List.Perm.refl _)) rfl rfl rfl (Nat.le_of_ble_eq_true rfl) dL_law_375 (fun H locs hP hD hS => ?_)
      refine lv_aload_n hx hb dL_law_378 rfl (lv_at hl 2 rfl) ?_
      refine lv_aload_n hx hb dL_law_379 rfl (lv_at hl 0 rfl) ?_
      refine lv_iload_n hx hb dL_law_380 rfl (lv_at hl 3 rfl) ?_
      refine lv_iconst (v := 1) hx hb dL_law_381 (by decide) ?_
      refine lv_iadd hx hb dL_law_382 ?_
      refine g_sld (x := x1) hx hb hX hbl hbA hS hin1 hx1 dL_law_383 ?_
      refine lv_aload_n hx hb dL_law_384 rfl (lv_at hl 0 rfl) ?_
      refine lv_iload_n hx hb dL_law_385 rfl (lv_at hl 3 rfl) ?_
      refine lv_iconst (v := 2) hx hb dL_law_386 (by decide) ?_
      refine lv_iadd hx hb dL_law_387 ?_
      refine g_sld (x := x2) hx hb hX hbl hbA hS hin2 hx2 dL_law_388 ?_
      refine gc_VI (n := 2) (q0 := 0) (ci := 4) (w' := NW cy aN w1 w2 G1 w3 ++ MW cy aM V1) hx hb hml hown hts hK hP hD hS hA hl.1 ⟨Nat.le_refl _, Nat.le_refl _⟩ (C_X4_request l D cy aM V x1 x2 r V1 q2) gL_law_X4_request rfl (by decide +kernel) rfl ⟨by decide, by decide⟩ (Jn.perm List.perm_append_comm List.perm_append_comm) rfl rfl rfl (Nat.le_of_ble_eq_true rfl) dL_law_389 (fun H locs hP hD hS => ?_)
      refine lv_icmp_eq (tgt := 762) hx hb dL_law_392 (by decide) (fun _ => ?_) (fun c9 => absurd rfl c9)
      exact next w1 w2 G1 w3 V1 hI1 H locs hP hD hS
    by_cases c7 : x0 &&& 31 = 7
    · refine lv_tableIn (off := 365) (tgt := 397) hx hb dL_law_32 (by rw [c7]; decide) (by rw [c7]; decide) (by rw [c7]; rfl) (by decide) ?_
      obtain ⟨r, w1, w2, G1, w3, V1, q1, q2, hI1⟩ := s_cancel v1 v2 G v3 V hI x1
      refine lv_aload_n hx hb dL_law_397 rfl (lv_at hl 1 rfl) ?_
      refine lv_aload_n hx hb dL_law_398 rfl (lv_at hl 0 rfl) ?_
      refine lv_iload_n hx hb dL_law_399 rfl (lv_at hl 3 rfl) ?_
      refine lv_iconst (v := 1) hx hb dL_law_400 (by decide) ?_
      refine lv_iadd hx hb dL_law_401 ?_
      refine g_sld (x := x1) hx hb hX hbl hbA hS hin1 hx1 dL_law_402 ?_
      refine gc_VI (n := 1) (q0 := 0) (ci := 3) (w' := NW cy aN w1 w2 G1 w3 ++ MW cy aM V) hx hb hml hown hts hK hP hD hS hA hl.1 ⟨Nat.le_refl _, Nat.le_refl _⟩ (C_X3_cancel l D cy aN v1 v2 G v3 x1 r w1 w2 G1 w3 q1) gL_law_X3_cancel rfl (by decide +kernel) rfl ⟨by decide, by decide⟩ (Jn.perm (List.Perm.refl _) (List.Perm.refl _)) rfl rfl rfl (Nat.le_of_ble_eq_true rfl) dL_law_403 (fun H locs hP hD hS => ?_)
      refine lv_aload_n hx hb dL_law_406 rfl (lv_at hl 2 rfl) ?_
      refine lv_aload_n hx hb dL_law_407 rfl (lv_at hl 0 rfl) ?_
      refine lv_iload_n hx hb dL_law_408 rfl (lv_at hl 3 rfl) ?_
      refine lv_iconst (v := 1) hx hb dL_law_409 (by decide) ?_
      refine lv_iadd hx hb dL_law_410 ?_
      refine g_sld (x := x1) hx hb hX hbl hbA hS hin1 hx1 dL_law_411 ?_
      refine gc_VI (n := 1) (q0 := 0) (ci := 4) (w' := NW cy aN w1 w2 G1 w3 ++ MW cy aM V1) hx hb hml hown hts hK hP hD hS hA hl.1 ⟨Nat.le_refl _, Nat.le_refl _⟩ (C_X4_cancel l D cy aM V x1 r V1 q2) gL_law_X4_cancel rfl (by decide +kernel) rfl ⟨by decide, by decide⟩ (Jn.perm List.perm_append_comm List.perm_append_comm) rfl rfl rfl (Nat.le_of_ble_eq_true rfl) dL_law_412 (fun H locs hP hD hS => ?_)
      refine lv_icmp_eq (tgt := 762) hx hb dL_law_415 (by decide) (fun _ => ?_) (fun c9 => absurd rfl c9)
      exact next w1 w2 G1 w3 V1 hI1 H locs hP hD hS
    by_cases c8 : x0 &&& 31 = 8
    · refine lv_tableIn (off := 388) (tgt := 420) hx hb dL_law_32 (by rw [c8]; decide) (by rw [c8]; decide) (by rw [c8]; rfl) (by decide) ?_
      obtain ⟨r, q1, q2, hI1⟩ := s_requestAt v1 v2 G v3 V hI x1 x2
      refine lv_aload_n hx hb dL_law_420 rfl (lv_at hl 1 rfl) ?_
      refine lv_aload_n hx hb dL_law_421 rfl (lv_at hl 0 rfl) ?_
      refine lv_iload_n hx hb dL_law_422 rfl (lv_at hl 3 rfl) ?_
      refine lv_iconst (v := 1) hx hb dL_law_423 (by decide) ?_
      refine lv_iadd hx hb dL_law_424 ?_
      refine g_sld (x := x1) hx hb hX hbl hbA hS hin1 hx1 dL_law_425 ?_
      refine lv_aload_n hx hb dL_law_426 rfl (lv_at hl 0 rfl) ?_
      refine lv_iload_n hx hb dL_law_427 rfl (lv_at hl 3 rfl) ?_
      refine lv_iconst (v := 2) hx hb dL_law_428 (by decide) ?_
      refine lv_iadd hx hb dL_law_429 ?_
      refine g_sld (x := x2) hx hb hX hbl hbA hS hin2 hx2 dL_law_430 ?_
      refine gc_VI (n := 2) (q0 := 0) (ci := 3) (w' := NW cy aN v1 v2 G v3 ++ MW cy aM V) hx hb hml hown hts hK hP hD hS hA hl.1 ⟨Nat.le_refl _, Nat.le_refl _⟩ (C_X3_requestAt l D cy aN v1 v2 G v3 x1 x2 r q1) gL_law_X3_requestAt rfl (by decide +kernel) rfl ⟨by decide, by decide⟩ (Jn.perm (List.Perm.refl _) (List.Perm.refl _)) rfl rfl rfl (Nat.le_of_ble_eq_true rfl) dL_law_431 (fun H locs hP hD hS => ?_)
      refine lv_aload_n hx hb dL_law_434 rfl (lv_at hl 2 rfl) ?_
      refine lv_aload_n hx hb dL_law_435 rfl (lv_at hl 0 rfl) ?_
      refine lv_iload_n hx hb dL_law_436 rfl (lv_at hl 3 rfl) ?_
      refine lv_iconst (v := 1) hx hb dL_law_437 (by decide) ?_
      refine lv_iadd hx hb dL_law_438 ?_
      refine g_sld (x := x1) hx hb hX hbl hbA hS hin1 hx1 dL_law_439 ?_
      refine lv_aload_n hx hb dL_law_440 rfl (lv_at hl 0 rfl) ?_
      refine lv_iload_n hx hb dL_law_441 rfl (lv_at hl 3 rfl) ?_
      refine lv_iconst (v := 2) hx hb dL_law_442 (by decide) ?_
      refine lv_iadd hx hb dL_law_443 ?_
      refine g_sld (x := x2) hx hb hX hbl hbA hS hin2 hx2 dL_law_444 ?_
      refine gc_VI (n := 2) (q0 := 0) (ci := 4) (w' := NW cy aN v1 v2 G v3 ++ MW cy aM V) hx hb hml hown hts hK hP hD hS hA hl.1 ⟨Nat.le_refl _, Nat.le_refl _⟩ (C_X4_requestAt l D cy aM V x1 x2 r q2) gL_law_X4_requestAt rfl (by decide +kernel) rfl ⟨by decide, by decide⟩ (Jn.perm List.perm_append_comm List.perm_append_comm) rfl rfl rfl (Nat.le_of_ble_eq_true rfl) dL_law_445 (fun H locs hP hD hS => ?_)
      refine lv_icmp_eq (tgt := 762) hx hb dL_law_448 (by decide) (fun _ => ?_) (fun c9 => absurd rfl c9)
      exact next v1 v2 G v3 V hI1 H locs hP hD hS
    by_cases c9 : x0 &&& 31 = 9
    · refine lv_tableIn (off := 421) (tgt := 453) hx hb dL_law_32 (by rw [c9]; decide) (by rw [c9]; decide) (by rw [c9]; rfl) (by decide) ?_
      obtain ⟨r, w1, w2, G1, w3, V1, q1, q2, hI1⟩ := s_tick v1 v2 G v3 V hI x1
      refine lv_aload_n hx hb dL_law_453 rfl (lv_at hl 1 rfl) ?_
      refine lv_aload_n hx hb dL_law_454 rfl (lv_at hl 0 rfl) ?_
      refine lv_iload_n hx hb dL_law_455 rfl (lv_at hl 3 rfl) ?_
      refine lv_iconst (v := 1) hx hb dL_law_456 (by decide) ?_
      refine lv_iadd hx hb dL_law_457 ?_
      refine g_sld (x := x1) hx hb hX hbl hbA hS hin1 hx1 dL_law_458 ?_
      refine gc_VI (n := 1) (q0 := 0) (ci := 3) (w' := NW cy aN w1 w2 G1 w3 ++ MW cy aM V) hx hb hml hown hts hK hP hD hS hA hl.1 ⟨Nat.le_refl _, Nat.le_refl _⟩ (C_X3_tick l D cy aN v1 v2 G v3 x1 r w1 w2 G1 w3 q1) gL_law_X3_tick rfl (by decide +kernel) rfl ⟨by decide, by decide⟩ (Jn.perm (List.Perm.refl _) (List.Perm.refl _)) rfl rfl rfl (Nat.le_of_ble_eq_true rfl) dL_law_459 (fun H locs hP hD hS => ?_)
      refine lv_aload_n hx hb dL_law_462 rfl (lv_at hl 2 rfl) ?_
      refine lv_aload_n hx hb dL_law_463 rfl (lv_at hl 0 rfl) ?_
      refine lv_iload_n hx hb dL_law_464 rfl (lv_at hl 3 rfl) ?_
      refine lv_iconst (v := 1) hx hb dL_law_465 (by decide) ?_
      refine lv_iadd hx hb dL_law_466 ?_
      refine g_sld (x := x1) hx hb hX hbl hbA hS hin1 hx1 dL_law_467 ?_
      refine gc_VI (n := 1) (q0 := 0) (ci := 4) (w' := NW cy aN w1 w2 G1 w3 ++ MW cy aM V1) hx hb hml hown hts hK hP hD hS hA hl.1 ⟨Nat.le_refl _, Nat.le_refl _⟩ (C_X4_tick l D cy aM V x1 r V1 q2) gL_law_X4_tick rfl (by decide +kernel) rfl ⟨by decide, by decide⟩ (Jn.perm List.perm_append_comm List.perm_append_comm) rfl rfl rfl (Nat.le_of_ble_eq_true rfl) dL_law_468 (fun H locs hP hD hS => ?_)
      refine lv_icmp_eq (tgt := 762) hx hb dL_law_471 (by decide) (fun _ => ?_) (fun c9 => absurd rfl c9)
      exact next w1 w2 G1 w3 V1 hI1 H locs hP hD hS
    by_cases c10 : x0 &&& 31 = 10
    · refine lv_tableIn (off := 444) (tgt := 476) hx hb dL_law_32 (by rw [c10]; decide) (by rw [c10]; decide) (by rw [c10]; rfl) (by decide) ?_
      obtain ⟨r, w1, w2, G1, w3, V1, q1, q2, hI1⟩ := s_set v1 v2 G v3 V hI x1 x2
      refine lv_aload_n hx hb dL_law_476 rfl (lv_at hl 1 rfl) ?_
      refine lv_aload_n hx hb dL_law_477 rfl (lv_at hl 0 rfl) ?_
      refine lv_iload_n hx hb dL_law_478 rfl (lv_at hl 3 rfl) ?_
      refine lv_iconst (v := 1) hx hb dL_law_479 (by decide) ?_
      refine lv_iadd hx hb dL_law_480 ?_
      refine g_sld (x := x1) hx hb hX hbl hbA hS hin1 hx1 dL_law_481 ?_
      refine lv_aload_n hx hb dL_law_482 rfl (lv_at hl 0 rfl) ?_
      refine lv_iload_n hx hb dL_law_483 rfl (lv_at hl 3 rfl) ?_
      refine lv_iconst (v := 2) hx hb dL_law_484 (by decide) ?_
      refine lv_iadd hx hb dL_law_485 ?_
      refine g_sld (x := x2) hx hb hX hbl hbA hS hin2 hx2 dL_law_486 ?_
      refine gc_VI (n := 2) (q0 := 0) (ci := 3) (w' := NW cy aN w1 w2 G1 w3 ++ MW cy aM V) hx hb hml hown hts hK hP hD hS hA hl.1 ⟨Nat.le_refl _, Nat.le_refl _⟩ (C_X3_set l D cy aN v1 v2 G v3 x1 x2 r w1 w2 G1 w3 q1) gL_law_X3_set rfl (by decide +kernel) rfl ⟨by decide, by decide⟩ (Jn.perm (List.Perm.refl _) (List.Perm.refl _)) rfl rfl rfl (Nat.le_of_ble_eq_true rfl) dL_law_487 (fun H locs hP hD hS => ?_)
      refine lv_aload_n hx hb dL_law_490 rfl (lv_at hl 2 rfl) ?_
      refine lv_aload_n hx hb dL_law_491 rfl (lv_at hl 0 rfl) ?_
      refine lv_iload_n hx hb dL_law_492 rfl (lv_at hl 3 rfl) ?_
      refine lv_iconst (v := 1) hx hb dL_law_493 (by decide) ?_
      refine lv_iadd hx hb dL_law_494 ?_
      refine g_sld (x := x1) hx hb hX hbl hbA hS hin1 hx1 dL_law_495 ?_
      refine lv_aload_n hx hb dL_law_496 rfl (lv_at hl 0 rfl) ?_
      refine lv_iload_n hx hb dL_law_497 rfl (lv_at hl 3 rfl) ?_
      refine lv_iconst (v := 2) hx hb dL_law_498 (by decide) ?_
      refine lv_iadd hx hb dL_law_499 ?_
      refine g_sld (x := x2) hx hb hX hbl hbA hS hin2 hx2 dL_law_500 ?_
      refine gc_VI (n := 2) (q0 := 0) (ci := 4) (w' := NW cy aN w1 w2 G1 w3 ++ MW cy aM V1) hx hb hml hown hts hK hP hD hS hA hl.1 ⟨Nat.le_refl _, Nat.le_refl _⟩ (C_X4_set l D cy aM V x1 x2 r V1 q2) gL_law_X4_set rfl (by decide +kernel) rfl ⟨by decide, by decide⟩ (Jn.perm List.perm_append_comm List.perm_append_comm) rfl rfl rfl (Nat.le_of_ble_eq_true rfl) dL_law_501 (fun H locs hP hD hS => ?_)
      refine lv_icmp_eq (tgt := 762) hx hb dL_law_504 (by decide) (fun _ => ?_) (fun c9 => absurd rfl c9)
      exact next w1 w2 G1 w3 V1 hI1 H locs hP hD hS
    by_cases c11 : x0 &&& 31 = 11
    · refine lv_tableIn (off := 477) (tgt := 509) hx hb dL_law_32 (by rw [c11]; decide) (by rw [c11]; decide) (by rw [c11]; rfl) (by decide) ?_
      obtain ⟨r, w1, w2, G1, w3, q1, q2, hI1⟩ := s_able v1 v2 G v3 V hI x1
      refine lv_aload_n hx hb dL_law_509 rfl (lv_at hl 1 rfl) ?_
      refine lv_aload_n hx hb dL_law_510 rfl (lv_at hl 0 rfl) ?_
      refine lv_iload_n hx hb dL_law_511 rfl (lv_at hl 3 rfl) ?_
      refine lv_iconst (v := 1) hx hb dL_law_512 (by decide) ?_
      refine lv_iadd hx hb dL_law_513 ?_
      refine g_sld (x := x1) hx hb hX hbl hbA hS hin1 hx1 dL_law_514 ?_
      refine gc_VI (n := 1) (q0 := 0) (ci := 3) (w' := NW cy aN w1 w2 G1 w3 ++ MW cy aM V) hx hb hml hown hts hK hP hD hS hA hl.1 ⟨Nat.le_refl _, Nat.le_refl _⟩ (C_X3_able l D cy aN v1 v2 G v3 x1 r w1 w2 G1 w3 q1) gL_law_X3_able rfl (by decide +kernel) rfl ⟨by decide, by decide⟩ (Jn.perm (List.Perm.refl _) (List.Perm.refl _)) rfl rfl rfl (Nat.le_of_ble_eq_true rfl) dL_law_515 (fun H locs hP hD hS => ?_)
      refine lv_aload_n hx hb dL_law_518 rfl (lv_at hl 2 rfl) ?_
      refine lv_aload_n hx hb dL_law_519 rfl (lv_at hl 0 rfl) ?_
      refine lv_iload_n hx hb dL_law_520 rfl (lv_at hl 3 rfl) ?_
      refine lv_iconst (v := 1) hx hb dL_law_521 (by decide) ?_
      refine lv_iadd hx hb dL_law_522 ?_
      refine g_sld (x := x1) hx hb hX hbl hbA hS hin1 hx1 dL_law_523 ?_
      refine gc_VI (n := 1) (q0 := 0) (ci := 4) (w' := NW cy aN w1 w2 G1 w3 ++ MW cy aM V) hx hb hml hown hts hK hP hD hS hA hl.1 ⟨Nat.le_refl _, Nat.le_refl _⟩ (C_X4_able l D cy aM V x1 r q2) gL_law_X4_able rfl (by decide +kernel) rfl ⟨by decide, by decide⟩ (Jn.perm List.perm_append_comm List.perm_append_comm) rfl rfl rfl (Nat.le_of_ble_eq_true rfl) dL_law_524 (fun H locs hP hD hS => ?_)
      refine lv_icmp_eq (tgt := 762) hx hb dL_law_527 (by decide) (fun _ => ?_) (fun c9 => absurd rfl c9)
      exact next w1 w2 G1 w3 V hI1 H locs hP hD hS
    by_cases c12 : x0 &&& 31 = 12
    · refine lv_tableIn (off := 500) (tgt := 532) hx hb dL_law_32 (by rw [c12]; decide) (by rw [c12]; decide) (by rw [c12]; rfl) (by decide) ?_
      obtain ⟨r, w1, w2, G1, w3, q1, q2, hI1⟩ := s_gives v1 v2 G v3 V hI x1 x2 x3
      refine lv_aload_n hx hb dL_law_532 rfl (lv_at hl 1 rfl) ?_
      refine lv_aload_n hx hb dL_law_533 rfl (lv_at hl 0 rfl) ?_
      refine lv_iload_n hx hb dL_law_534 rfl (lv_at hl 3 rfl) ?_
      refine lv_iconst (v := 1) hx hb dL_law_535 (by decide) ?_
      refine lv_iadd hx hb dL_law_536 ?_
      refine g_sld (x := x1) hx hb hX hbl hbA hS hin1 hx1 dL_law_537 ?_
      refine lv_aload_n hx hb dL_law_538 rfl (lv_at hl 0 rfl) ?_
      refine lv_iload_n hx hb dL_law_539 rfl (lv_at hl 3 rfl) ?_
      refine lv_iconst (v := 2) hx hb dL_law_540 (by decide) ?_
      refine lv_iadd hx hb dL_law_541 ?_
      refine g_sld (x := x2) hx hb hX hbl hbA hS hin2 hx2 dL_law_542 ?_
      refine lv_aload_n hx hb dL_law_543 rfl (lv_at hl 0 rfl) ?_
      refine lv_iload_n hx hb dL_law_544 rfl (lv_at hl 3 rfl) ?_
      refine lv_iconst (v := 3) hx hb dL_law_545 (by decide) ?_
      refine lv_iadd hx hb dL_law_546 ?_
      refine g_sld (x := x3) hx hb hX hbl hbA hS hin3 hx3 dL_law_547 ?_
      refine gc_VI (n := 3) (q0 := 0) (ci := 3) (w' := NW cy aN w1 w2 G1 w3 ++ MW cy aM V) hx hb hml hown hts hK hP hD hS hA hl.1 ⟨Nat.le_refl _, Nat.le_refl _⟩ (C_X3_gives l D cy aN v1 v2 G v3 x1 x2 x3 r w1 w2 G1 w3 q1) gL_law_X3_gives rfl (by decide +kernel) rfl ⟨by decide, by decide⟩ (Jn.perm (List.Perm.refl _) (List.Perm.refl _)) rfl rfl rfl (Nat.le_of_ble_eq_true rfl) dL_law_548 (fun H locs hP hD hS => ?_)
      refine lv_aload_n hx hb dL_law_551 rfl (lv_at hl 2 rfl) ?_
      refine lv_aload_n hx hb dL_law_552 rfl (lv_at hl 0 rfl) ?_
      refine lv_iload_n hx hb dL_law_553 rfl (lv_at hl 3 rfl) ?_
      refine lv_iconst (v := 1) hx hb dL_law_554 (by decide) ?_
      refine lv_iadd hx hb dL_law_555 ?_
      refine g_sld (x := x1) hx hb hX hbl hbA hS hin1 hx1 dL_law_556 ?_
      refine lv_aload_n hx hb dL_law_557 rfl (lv_at hl 0 rfl) ?_
      refine lv_iload_n hx hb dL_law_558 rfl (lv_at hl 3 rfl) ?_
      refine lv_iconst (v := 2) hx hb dL_law_559 (by decide) ?_
      refine lv_iadd hx hb dL_law_560 ?_
      refine g_sld (x := x2) hx hb hX hbl hbA hS hin2 hx2 dL_law_561 ?_
      refine lv_aload_n hx hb dL_law_562 rfl (lv_at hl 0 rfl) ?_
      refine lv_iload_n hx hb dL_law_563 rfl (lv_at hl 3 rfl) ?_
      refine lv_iconst (v := 3) hx hb dL_law_564 (by decide) ?_
      refine lv_iadd hx hb dL_law_565 ?_
      refine g_sld (x := x3) hx hb hX hbl hbA hS hin3 hx3 dL_law_566 ?_
      refine gc_VI (n := 3) (q0 := 0) (ci := 4) (w' := NW cy aN w1 w2 G1 w3 ++ MW cy aM V) hx hb hml hown hts hK hP hD hS hA hl.1 ⟨Nat.le_refl _, Nat.le_refl _⟩ (C_X4_gives l D cy aM V x1 x2 x3 r q2) gL_law_X4_gives rfl (by decide +kernel) rfl ⟨by decide, by decide⟩ (Jn.perm List.perm_append_comm List.perm_append_comm) rfl rfl rfl (Nat.le_of_ble_eq_true rfl) dL_law_567 (fun H locs hP hD hS => ?_)
      refine lv_icmp_eq (tgt := 762) hx hb dL_law_570 (by decide) (fun _ => ?_) (fun c9 => absurd rfl c9)
      exact next w1 w2 G1 w3 V hI1 H locs hP hD hS
    by_cases c13 : x0 &&& 31 = 13
    · refine lv_tableIn (off := 543) (tgt := 575) hx hb dL_law_32 (by rw [c13]; decide) (by rw [c13]; decide) (by rw [c13]; rfl) (by decide) ?_
      obtain ⟨r, w1, w2, G1, w3, V1, q1, q2, hI1⟩ := s_possibleIn v1 v2 G v3 V hI x1 x2
      refine lv_aload_n hx hb dL_law_575 rfl (lv_at hl 1 rfl) ?_
      refine lv_aload_n hx hb dL_law_576 rfl (lv_at hl 0 rfl) ?_
      refine lv_iload_n hx hb dL_law_577 rfl (lv_at hl 3 rfl) ?_
      refine lv_iconst (v := 1) hx hb dL_law_578 (by decide) ?_
      refine lv_iadd hx hb dL_law_579 ?_
      refine g_sld (x := x1) hx hb hX hbl hbA hS hin1 hx1 dL_law_580 ?_
      refine lv_aload_n hx hb dL_law_581 rfl (lv_at hl 0 rfl) ?_
      refine lv_iload_n hx hb dL_law_582 rfl (lv_at hl 3 rfl) ?_
      refine lv_iconst (v := 2) hx hb dL_law_583 (by decide) ?_
      refine lv_iadd hx hb dL_law_584 ?_
      refine g_sld (x := x2) hx hb hX hbl hbA hS hin2 hx2 dL_law_585 ?_
      refine gc_VI (n := 2) (q0 := 0) (ci := 3) (w' := NW cy aN w1 w2 G1 w3 ++ MW cy aM V) hx hb hml hown hts hK hP hD hS hA hl.1 ⟨Nat.le_refl _, Nat.le_refl _⟩ (C_X3_possibleIn l D cy aN v1 v2 G v3 x1 x2 r w1 w2 G1 w3 q1) gL_law_X3_possibleIn rfl (by decide +kernel) rfl ⟨by decide, by decide⟩ (Jn.perm (List.Perm.refl _) (List.Perm.refl _)) rfl rfl rfl (Nat.le_of_ble_eq_true rfl) dL_law_586 (fun H locs hP hD hS => ?_)
      refine lv_aload_n hx hb dL_law_589 rfl (lv_at hl 2 rfl) ?_
      refine lv_aload_n hx hb dL_law_590 rfl (lv_at hl 0 rfl) ?_
      refine lv_iload_n hx hb dL_law_591 rfl (lv_at hl 3 rfl) ?_
      refine lv_iconst (v := 1) hx hb dL_law_592 (by decide) ?_
      refine lv_iadd hx hb dL_law_593 ?_
      refine g_sld (x := x1) hx hb hX hbl hbA hS hin1 hx1 dL_law_594 ?_
      refine lv_aload_n hx hb dL_law_595 rfl (lv_at hl 0 rfl) ?_
      refine lv_iload_n hx hb dL_law_596 rfl (lv_at hl 3 rfl) ?_
      refine lv_iconst (v := 2) hx hb dL_law_597 (by decide) ?_
      refine lv_iadd hx hb dL_law_598 ?_
      refine g_sld (x := x2) hx hb hX hbl hbA hS hin2 hx2 dL_law_599 ?_
      refine gc_VI (n := 2) (q0 := 0) (ci := 4) (w' := NW cy aN w1 w2 G1 w3 ++ MW cy aM V1) hx hb hml hown hts hK hP hD hS hA hl.1 ⟨Nat.le_refl _, Nat.le_refl _⟩ (C_X4_possibleIn l D cy aM V x1 x2 r V1 q2) gL_law_X4_possibleIn rfl (by decide +kernel) rfl ⟨by decide, by decide⟩ (Jn.perm List.perm_append_comm List.perm_append_comm) rfl rfl rfl (Nat.le_of_ble_eq_true rfl) dL_law_600 (fun H locs hP hD hS => ?_)
      refine lv_icmp_eq (tgt := 762) hx hb dL_law_603 (by decide) (fun _ => ?_) (fun c9 => absurd rfl c9)
      exact next w1 w2 G1 w3 V1 hI1 H locs hP hD hS
    by_cases c14 : x0 &&& 31 = 14
    · refine lv_tableIn (off := 576) (tgt := 608) hx hb dL_law_32 (by rw [c14]; decide) (by rw [c14]; decide) (by rw [c14]; rfl) (by decide) ?_
      obtain ⟨r, w1, w2, G1, w3, V1, q1, q2, hI1⟩ := s_waterIn v1 v2 G v3 V hI x1 x2
      refine lv_aload_n hx hb dL_law_608 rfl (lv_at hl 1 rfl) ?_
      refine lv_aload_n hx hb dL_law_609 rfl (lv_at hl 0 rfl) ?_
      refine lv_iload_n hx hb dL_law_610 rfl (lv_at hl 3 rfl) ?_
      refine lv_iconst (v := 1) hx hb dL_law_611 (by decide) ?_
      refine lv_iadd hx hb dL_law_612 ?_
      refine g_sld (x := x1) hx hb hX hbl hbA hS hin1 hx1 dL_law_613 ?_
      refine lv_aload_n hx hb dL_law_614 rfl (lv_at hl 0 rfl) ?_
      refine lv_iload_n hx hb dL_law_615 rfl (lv_at hl 3 rfl) ?_
      refine lv_iconst (v := 2) hx hb dL_law_616 (by decide) ?_
      refine lv_iadd hx hb dL_law_617 ?_
      refine g_sld (x := x2) hx hb hX hbl hbA hS hin2 hx2 dL_law_618 ?_
      refine gc_VI (n := 2) (q0 := 0) (ci := 3) (w' := NW cy aN w1 w2 G1 w3 ++ MW cy aM V) hx hb hml hown hts hK hP hD hS hA hl.1 ⟨Nat.le_refl _, Nat.le_refl _⟩ (C_X3_waterIn l D cy aN v1 v2 G v3 x1 x2 r w1 w2 G1 w3 q1) gL_law_X3_waterIn rfl (by decide +kernel) rfl ⟨by decide, by decide⟩ (Jn.perm (List.Perm.refl _) (List.Perm.refl _)) rfl rfl rfl (Nat.le_of_ble_eq_true rfl) dL_law_619 (fun H locs hP hD hS => ?_)
      refine lv_aload_n hx hb dL_law_622 rfl (lv_at hl 2 rfl) ?_
      refine lv_aload_n hx hb dL_law_623 rfl (lv_at hl 0 rfl) ?_
      refine lv_iload_n hx hb dL_law_624 rfl (lv_at hl 3 rfl) ?_
      refine lv_iconst (v := 1) hx hb dL_law_625 (by decide) ?_
      refine lv_iadd hx hb dL_law_626 ?_
      refine g_sld (x := x1) hx hb hX hbl hbA hS hin1 hx1 dL_law_627 ?_
      refine lv_aload_n hx hb dL_law_628 rfl (lv_at hl 0 rfl) ?_
      refine lv_iload_n hx hb dL_law_629 rfl (lv_at hl 3 rfl) ?_
      refine lv_iconst (v := 2) hx hb dL_law_630 (by decide) ?_
      refine lv_iadd hx hb dL_law_631 ?_
      refine g_sld (x := x2) hx hb hX hbl hbA hS hin2 hx2 dL_law_632 ?_
      refine gc_VI (n := 2) (q0 := 0) (ci := 4) (w' := NW cy aN w1 w2 G1 w3 ++ MW cy aM V1) hx hb hml hown hts hK hP hD hS hA hl.1 ⟨Nat.le_refl _, Nat.le_refl _⟩ (C_X4_waterIn l D cy aM V x1 x2 r V1 q2) gL_law_X4_waterIn rfl (by decide +kernel) rfl ⟨by decide, by decide⟩ (Jn.perm List.perm_append_comm List.perm_append_comm) rfl rfl rfl (Nat.le_of_ble_eq_true rfl) dL_law_633 (fun H locs hP hD hS => ?_)
      refine lv_icmp_eq (tgt := 762) hx hb dL_law_636 (by decide) (fun _ => ?_) (fun c9 => absurd rfl c9)
      exact next w1 w2 G1 w3 V1 hI1 H locs hP hD hS
    by_cases c15 : x0 &&& 31 = 15
    · refine lv_tableIn (off := 609) (tgt := 641) hx hb dL_law_32 (by rw [c15]; decide) (by rw [c15]; decide) (by rw [c15]; rfl) (by decide) ?_
      obtain ⟨r, w1, w2, G1, w3, V1, q1, q2, hI1⟩ := s_lenders v1 v2 G v3 V hI
      refine lv_aload_n hx hb dL_law_641 rfl (lv_at hl 1 rfl) ?_
      refine gc_VI (n := 0) (q0 := 0) (ci := 3) (w' := NW cy aN w1 w2 G1 w3 ++ MW cy aM V) hx hb hml hown hts hK hP hD hS hA hl.1 ⟨Nat.le_refl _, Nat.le_refl _⟩ (C_X3_lenders l D cy aN v1 v2 G v3 r w1 w2 G1 w3 q1) gL_law_X3_lenders rfl (by decide +kernel) rfl ⟨by decide, by decide⟩ (Jn.perm (List.Perm.refl _) (List.Perm.refl _)) rfl rfl rfl (Nat.le_of_ble_eq_true rfl) dL_law_642 (fun H locs hP hD hS => ?_)
      refine lv_aload_n hx hb dL_law_645 rfl (lv_at hl 2 rfl) ?_
      refine gc_VI (n := 0) (q0 := 0) (ci := 4) (w' := NW cy aN w1 w2 G1 w3 ++ MW cy aM V1) hx hb hml hown hts hK hP hD hS hA hl.1 ⟨Nat.le_refl _, Nat.le_refl _⟩ (C_X4_lenders l D cy aM V r V1 q2) gL_law_X4_lenders rfl (by decide +kernel) rfl ⟨by decide, by decide⟩ (Jn.perm List.perm_append_comm List.perm_append_comm) rfl rfl rfl (Nat.le_of_ble_eq_true rfl) dL_law_646 (fun H locs hP hD hS => ?_)
      refine lv_icmp_eq (tgt := 762) hx hb dL_law_649 (by decide) (fun _ => ?_) (fun c9 => absurd rfl c9)
      exact next w1 w2 G1 w3 V1 hI1 H locs hP hD hS
    by_cases c16 : x0 &&& 31 = 16
    · refine lv_tableIn (off := 622) (tgt := 654) hx hb dL_law_32 (by rw [c16]; decide) (by rw [c16]; decide) (by rw [c16]; rfl) (by decide) ?_
      obtain ⟨r, q1, q2, hI1⟩ := s_count v1 v2 G v3 V hI x1
      refine lv_aload_n hx hb dL_law_654 rfl (lv_at hl 1 rfl) ?_
      refine lv_aload_n hx hb dL_law_655 rfl (lv_at hl 0 rfl) ?_
      refine lv_iload_n hx hb dL_law_656 rfl (lv_at hl 3 rfl) ?_
      refine lv_iconst (v := 1) hx hb dL_law_657 (by decide) ?_
      refine lv_iadd hx hb dL_law_658 ?_
      refine g_sld (x := x1) hx hb hX hbl hbA hS hin1 hx1 dL_law_659 ?_
      refine gc_VI (n := 1) (q0 := 0) (ci := 3) (w' := NW cy aN v1 v2 G v3 ++ MW cy aM V) hx hb hml hown hts hK hP hD hS hA hl.1 ⟨Nat.le_refl _, Nat.le_refl _⟩ (C_X3_count l D cy aN v1 v2 G v3 x1 r q1) gL_law_X3_count rfl (by decide +kernel) rfl ⟨by decide, by decide⟩ (Jn.perm (List.Perm.refl _) (List.Perm.refl _)) rfl rfl rfl (Nat.le_of_ble_eq_true rfl) dL_law_660 (fun H locs hP hD hS => ?_)
      refine lv_aload_n hx hb dL_law_663 rfl (lv_at hl 2 rfl) ?_
      refine lv_aload_n hx hb dL_law_664 rfl (lv_at hl 0 rfl) ?_
      refine lv_iload_n hx hb dL_law_665 rfl (lv_at hl 3 rfl) ?_
      refine lv_iconst (v := 1) hx hb dL_law_666 (by decide) ?_
      refine lv_iadd hx hb dL_law_667 ?_
      refine g_sld (x := x1) hx hb hX hbl hbA hS hin1 hx1 dL_law_668 ?_
      refine gc_VI (n := 1) (q0 := 0) (ci := 4) (w' := NW cy aN v1 v2 G v3 ++ MW cy aM V) hx hb hml hown hts hK hP hD hS hA hl.1 ⟨Nat.le_refl _, Nat.le_refl _⟩ (C_X4_count l D cy aM V x1 r q2) gL_law_X4_count rfl (by decide +kernel) rfl ⟨by decide, by decide⟩ (Jn.perm List.perm_append_comm List.perm_append_comm) rfl rfl rfl (Nat.le_of_ble_eq_true rfl) dL_law_669 (fun H locs hP hD hS => ?_)
      refine lv_icmp_eq (tgt := 762) hx hb dL_law_672 (by decide) (fun _ => ?_) (fun c9 => absurd rfl c9)
      exact next v1 v2 G v3 V hI1 H locs hP hD hS
    by_cases c17 : x0 &&& 31 = 17
    · refine lv_tableIn (off := 645) (tgt := 677) hx hb dL_law_32 (by rw [c17]; decide) (by rw [c17]; decide) (by rw [c17]; rfl) (by decide) ?_
      obtain ⟨r, w1, w2, G1, w3, V1, q1, q2, hI1⟩ := s_undo v1 v2 G v3 V hI
      refine lv_aload_n hx hb dL_law_677 rfl (lv_at hl 1 rfl) ?_
      refine gc_VI (n := 0) (q0 := 0) (ci := 3) (w' := NW cy aN w1 w2 G1 w3 ++ MW cy aM V) hx hb hml hown hts hK hP hD hS hA hl.1 ⟨Nat.le_refl _, Nat.le_refl _⟩ (C_X3_undo l D cy aN v1 v2 G v3 r w1 w2 G1 w3 q1) gL_law_X3_undo rfl (by decide +kernel) rfl ⟨by decide, by decide⟩ (Jn.perm (List.Perm.refl _) (List.Perm.refl _)) rfl rfl rfl (Nat.le_of_ble_eq_true rfl) dL_law_678 (fun H locs hP hD hS => ?_)
      refine lv_aload_n hx hb dL_law_681 rfl (lv_at hl 2 rfl) ?_
      refine gc_VI (n := 0) (q0 := 0) (ci := 4) (w' := NW cy aN w1 w2 G1 w3 ++ MW cy aM V1) hx hb hml hown hts hK hP hD hS hA hl.1 ⟨Nat.le_refl _, Nat.le_refl _⟩ (C_X4_undo l D cy aM V r V1 q2) gL_law_X4_undo rfl (by decide +kernel) rfl ⟨by decide, by decide⟩ (Jn.perm List.perm_append_comm List.perm_append_comm) rfl rfl rfl (Nat.le_of_ble_eq_true rfl) dL_law_682 (fun H locs hP hD hS => ?_)
      refine lv_icmp_eq (tgt := 762) hx hb dL_law_685 (by decide) (fun _ => ?_) (fun c9 => absurd rfl c9)
      exact next w1 w2 G1 w3 V1 hI1 H locs hP hD hS
    by_cases c18 : x0 &&& 31 = 18
    · refine lv_tableIn (off := 658) (tgt := 690) hx hb dL_law_32 (by rw [c18]; decide) (by rw [c18]; decide) (by rw [c18]; rfl) (by decide) ?_
      obtain ⟨r, w1, w2, G1, w3, V1, q1, q2, hI1⟩ := s_type v1 v2 G v3 V hI x1
      refine lv_aload_n hx hb dL_law_690 rfl (lv_at hl 1 rfl) ?_
      refine lv_aload_n hx hb dL_law_691 rfl (lv_at hl 0 rfl) ?_
      refine lv_iload_n hx hb dL_law_692 rfl (lv_at hl 3 rfl) ?_
      refine lv_iconst (v := 1) hx hb dL_law_693 (by decide) ?_
      refine lv_iadd hx hb dL_law_694 ?_
      refine g_sld (x := x1) hx hb hX hbl hbA hS hin1 hx1 dL_law_695 ?_
      refine gc_VI (n := 1) (q0 := 0) (ci := 3) (w' := NW cy aN w1 w2 G1 w3 ++ MW cy aM V) hx hb hml hown hts hK hP hD hS hA hl.1 ⟨Nat.le_refl _, Nat.le_refl _⟩ (C_X3_type l D cy aN v1 v2 G v3 x1 r w1 w2 G1 w3 q1) gL_law_X3_type rfl (by decide +kernel) rfl ⟨by decide, by decide⟩ (Jn.perm (List.Perm.refl _) (List.Perm.refl _)) rfl rfl rfl (Nat.le_of_ble_eq_true rfl) dL_law_696 (fun H locs hP hD hS => ?_)
      refine lv_aload_n hx hb dL_law_699 rfl (lv_at hl 2 rfl) ?_
      refine lv_aload_n hx hb dL_law_700 rfl (lv_at hl 0 rfl) ?_
      refine lv_iload_n hx hb dL_law_701 rfl (lv_at hl 3 rfl) ?_
      refine lv_iconst (v := 1) hx hb dL_law_702 (by decide) ?_
      refine lv_iadd hx hb dL_law_703 ?_
      refine g_sld (x := x1) hx hb hX hbl hbA hS hin1 hx1 dL_law_704 ?_
      refine gc_VI (n := 1) (q0 := 0) (ci := 4) (w' := NW cy aN w1 w2 G1 w3 ++ MW cy aM V1) hx hb hml hown hts hK hP hD hS hA hl.1 ⟨Nat.le_refl _, Nat.le_refl _⟩ (C_X4_type l D cy aM V x1 r V1 q2) gL_law_X4_type rfl (by decide +kernel) rfl ⟨by decide, by decide⟩ (Jn.perm List.perm_append_comm List.perm_append_comm) rfl rfl rfl (Nat.le_of_ble_eq_true rfl) dL_law_705 (fun H locs hP hD hS => ?_)
      refine lv_icmp_eq (tgt := 762) hx hb dL_law_708 (by decide) (fun _ => ?_) (fun c9 => absurd rfl c9)
      exact next w1 w2 G1 w3 V1 hI1 H locs hP hD hS
    by_cases c19 : x0 &&& 31 = 19
    · refine lv_tableIn (off := 681) (tgt := 713) hx hb dL_law_32 (by rw [c19]; decide) (by rw [c19]; decide) (by rw [c19]; rfl) (by decide) ?_
      obtain ⟨r, w1, w2, G1, w3, V1, q1, q2, hI1⟩ := s_clearText v1 v2 G v3 V hI
      refine lv_aload_n hx hb dL_law_713 rfl (lv_at hl 1 rfl) ?_
      refine gc_VI (n := 0) (q0 := 0) (ci := 3) (w' := NW cy aN w1 w2 G1 w3 ++ MW cy aM V) hx hb hml hown hts hK hP hD hS hA hl.1 ⟨Nat.le_refl _, Nat.le_refl _⟩ (C_X3_clearText l D cy aN v1 v2 G v3 r w1 w2 G1 w3 q1) gL_law_X3_clearText rfl (by decide +kernel) rfl ⟨by decide, by decide⟩ (Jn.perm (List.Perm.refl _) (List.Perm.refl _)) rfl rfl rfl (Nat.le_of_ble_eq_true rfl) dL_law_714 (fun H locs hP hD hS => ?_)
      refine lv_aload_n hx hb dL_law_717 rfl (lv_at hl 2 rfl) ?_
      refine gc_VI (n := 0) (q0 := 0) (ci := 4) (w' := NW cy aN w1 w2 G1 w3 ++ MW cy aM V1) hx hb hml hown hts hK hP hD hS hA hl.1 ⟨Nat.le_refl _, Nat.le_refl _⟩ (C_X4_clearText l D cy aM V r V1 q2) gL_law_X4_clearText rfl (by decide +kernel) rfl ⟨by decide, by decide⟩ (Jn.perm List.perm_append_comm List.perm_append_comm) rfl rfl rfl (Nat.le_of_ble_eq_true rfl) dL_law_718 (fun H locs hP hD hS => ?_)
      refine lv_icmp_eq (tgt := 762) hx hb dL_law_721 (by decide) (fun _ => ?_) (fun c9 => absurd rfl c9)
      exact next w1 w2 G1 w3 V1 hI1 H locs hP hD hS
    by_cases c20 : x0 &&& 31 = 20
    · refine lv_tableIn (off := 694) (tgt := 726) hx hb dL_law_32 (by rw [c20]; decide) (by rw [c20]; decide) (by rw [c20]; rfl) (by decide) ?_
      obtain ⟨r, w1, w2, G1, w3, V1, q1, q2, hI1⟩ := s_fault v1 v2 G v3 V hI x1
      refine lv_aload_n hx hb dL_law_726 rfl (lv_at hl 1 rfl) ?_
      refine lv_aload_n hx hb dL_law_727 rfl (lv_at hl 0 rfl) ?_
      refine lv_iload_n hx hb dL_law_728 rfl (lv_at hl 3 rfl) ?_
      refine lv_iconst (v := 1) hx hb dL_law_729 (by decide) ?_
      refine lv_iadd hx hb dL_law_730 ?_
      refine g_sld (x := x1) hx hb hX hbl hbA hS hin1 hx1 dL_law_731 ?_
      refine gc_VI (n := 1) (q0 := 0) (ci := 3) (w' := NW cy aN w1 w2 G1 w3 ++ MW cy aM V) hx hb hml hown hts hK hP hD hS hA hl.1 ⟨Nat.le_refl _, Nat.le_refl _⟩ (C_X3_fault l D cy aN v1 v2 G v3 x1 r w1 w2 G1 w3 q1) gL_law_X3_fault rfl (by decide +kernel) rfl ⟨by decide, by decide⟩ (Jn.perm (List.Perm.refl _) (List.Perm.refl _)) rfl rfl rfl (Nat.le_of_ble_eq_true rfl) dL_law_732 (fun H locs hP hD hS => ?_)
      refine lv_aload_n hx hb dL_law_735 rfl (lv_at hl 2 rfl) ?_
      refine lv_aload_n hx hb dL_law_736 rfl (lv_at hl 0 rfl) ?_
      refine lv_iload_n hx hb dL_law_737 rfl (lv_at hl 3 rfl) ?_
      refine lv_iconst (v := 1) hx hb dL_law_738 (by decide) ?_
      refine lv_iadd hx hb dL_law_739 ?_
      refine g_sld (x := x1) hx hb hX hbl hbA hS hin1 hx1 dL_law_740 ?_
      refine gc_VI (n := 1) (q0 := 0) (ci := 4) (w' := NW cy aN w1 w2 G1 w3 ++ MW cy aM V1) hx hb hml hown hts hK hP hD hS hA hl.1 ⟨Nat.le_refl _, Nat.le_refl _⟩ (C_X4_fault l D cy aM V x1 r V1 q2) gL_law_X4_fault rfl (by decide +kernel) rfl ⟨by decide, by decide⟩ (Jn.perm List.perm_append_comm List.perm_append_comm) rfl rfl rfl (Nat.le_of_ble_eq_true rfl) dL_law_741 (fun H locs hP hD hS => ?_)
      refine lv_icmp_eq (tgt := 762) hx hb dL_law_744 (by decide) (fun _ => ?_) (fun c9 => absurd rfl c9)
      exact next w1 w2 G1 w3 V1 hI1 H locs hP hD hS
    by_cases c21 : x0 &&& 31 = 21
    · refine lv_tableIn (off := 717) (tgt := 749) hx hb dL_law_32 (by rw [c21]; decide) (by rw [c21]; decide) (by rw [c21]; rfl) (by decide) ?_
      obtain ⟨r, w1, w2, G1, w3, V1, q1, q2, hI1⟩ := s_play v1 v2 G v3 V hI
      refine lv_aload_n hx hb dL_law_749 rfl (lv_at hl 1 rfl) ?_
      refine gc_VI (n := 0) (q0 := 0) (ci := 3) (w' := NW cy aN w1 w2 G1 w3 ++ MW cy aM V) hx hb hml hown hts hK hP hD hS hA hl.1 ⟨Nat.le_refl _, Nat.le_refl _⟩ (C_X3_play l D cy aN v1 v2 G v3 r w1 w2 G1 w3 q1) gL_law_X3_play rfl (by decide +kernel) rfl ⟨by decide, by decide⟩ (Jn.perm (List.Perm.refl _) (List.Perm.refl _)) rfl rfl rfl (Nat.le_of_ble_eq_true rfl) dL_law_750 (fun H locs hP hD hS => ?_)
      refine lv_aload_n hx hb dL_law_753 rfl (lv_at hl 2 rfl) ?_
      refine gc_VI (n := 0) (q0 := 0) (ci := 4) (w' := NW cy aN w1 w2 G1 w3 ++ MW cy aM V1) hx hb hml hown hts hK hP hD hS hA hl.1 ⟨Nat.le_refl _, Nat.le_refl _⟩ (C_X4_play l D cy aM V r V1 q2) gL_law_X4_play rfl (by decide +kernel) rfl ⟨by decide, by decide⟩ (Jn.perm List.perm_append_comm List.perm_append_comm) rfl rfl rfl (Nat.le_of_ble_eq_true rfl) dL_law_754 (fun H locs hP hD hS => ?_)
      refine lv_icmp_eq (tgt := 762) hx hb dL_law_757 (by decide) (fun _ => ?_) (fun c9 => absurd rfl c9)
      exact next w1 w2 G1 w3 V1 hI1 H locs hP hD hS
    refine lv_tableOut (tgt := 762) hx hb dL_law_32 (sw_out c0 c1 c2 c3 c4 c5 c6 c7 c8 c9 c10 c11 c12 c13 c14 c15 c16 c17 c18 c19 c20 c21) (by decide) ?_
    exact next v1 v2 G v3 V hI H locs hP hD hS
