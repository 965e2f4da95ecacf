/-! THE GROUND OF THE WALKS: clusters of cells as one function 'cell, place -> number'; contracts 'ConI', 'ConV' that give a method by a function; calls. -/
abbrev FV : Type := Nat → Nat → Int32
/-- one number written -/
def st (V : FV) (i j : Nat) (x : Int32) : FV := fun a => if a = i then upd (V i) j x else V a
def FUEL : Nat := 1000000
def rd (n : Nat) (f : Nat → Int32) (i : Int32) : Option Int32 := if i < 0 ∨ n ≤ i.toNatClampNeg then none else some (f i.toNatClampNeg)
def wr (n : Nat) (V : FV) (k : Nat) (i : Int32) (x : Int32) : Option FV := if i < 0 ∨ n ≤ i.toNatClampNeg then none else some (st V k i.toNatClampNeg x)
def ix (n : Nat) (i : Int32) : Option Nat := if i < 0 ∨ n ≤ i.toNatClampNeg then none else some i.toNatClampNeg
def nz (y : Int32) : Option Unit := if y = 0 then none else some ()
def b2 {α β γ : Type} (o : Option (α × β)) (k : α → β → Option γ) : Option γ := o.bind fun u => k u.1 u.2
def lt1 {α β : Type} (x : α) (k : α → β) : β := k x
theorem rd_some {n : Nat} {f : Nat → Int32} {i : Int32} {β : Type} {k : Int32 → Option β} {y : β} (h : (rd n f i).bind k = some y) : ∃ x, vp_in i n ∧ f i.toNatClampNeg = x ∧ k x = some y := by
  unfold rd at h
  by_cases c : i < 0 ∨ n ≤ i.toNatClampNeg
  · rw [if_pos c] at h; cases h
  · rw [if_neg c] at h; exact ⟨_, c, rfl, h⟩
theorem wr_some {n : Nat} {V : FV} {k0 : Nat} {i x : Int32} {β : Type} {k : FV → Option β} {y : β} (h : (wr n V k0 i x).bind k = some y) : ∃ V1, vp_in i n ∧ st V k0 i.toNatClampNeg x = V1 ∧ k V1 = some y := by
  unfold wr at h
  by_cases c : i < 0 ∨ n ≤ i.toNatClampNeg
  · rw [if_pos c] at h; cases h
  · rw [if_neg c] at h; exact ⟨_, c, rfl, h⟩
theorem ix_some {n : Nat} {i : Int32} {β : Type} {k : Nat → Option β} {y : β} (h : (ix n i).bind k = some y) : ∃ j, vp_in i n ∧ i.toNatClampNeg = j ∧ j < n ∧ k j = some y := by
  unfold ix at h
  by_cases c : i < 0 ∨ n ≤ i.toNatClampNeg
  · rw [if_pos c] at h; cases h
  · rw [if_neg c] at h; exact ⟨_, c, rfl, Nat.not_le.mp (fun q => c (Or.inr q)), h⟩
theorem nz_some {y : Int32} {β : Type} {k : Unit → Option β} {z : β} (h : (nz y).bind k = some z) : ¬ y = 0 ∧ k () = some z := by
  unfold nz at h
  by_cases c : y = 0
  · rw [if_pos c] at h; cases h
  · rw [if_neg c] at h; exact ⟨c, h⟩
theorem b1_some {α β : Type} {o : Option α} {k : α → Option β} {y : β} (h : o.bind k = some y) : ∃ a, o = some a ∧ k a = some y := by
  cases o with
  | none => cases h
  | some a => exact ⟨a, rfl, h⟩
theorem b2_some {α β γ : Type} {o : Option (α × β)} {k : α → β → Option γ} {y : γ} (h : b2 o k = some y) : ∃ a b, o = some (a, b) ∧ k a b = some y := by
  cases o with
  | none => cases h
  | some a => exact ⟨a.1, a.2, rfl, h⟩
theorem lt1_some {α β : Type} {x : α} {k : α → Option β} {y : β} (h : lt1 x k = some y) : ∃ a, x = a ∧ k a = some y := ⟨x, rfl, h⟩
theorem ite_t {c : Prop} [Decidable c] {α : Type} {a b y : α} (hc : c) (h : (if c then a else b) = y) : a = y := by rw [if_pos hc] at h; exact h
theorem ite_f {c : Prop} [Decidable c] {α : Type} {a b y : α} (hc : ¬ c) (h : (if c then a else b) = y) : b = y := by rw [if_neg hc] at h; exact h
theorem some_fst {α β : Type} {a a1 : α} {b b1 : β} (h : some (a, b) = some (a1, b1)) : a = a1 := by cases h; rfl
theorem some_snd {α β : Type} {a a1 : α} {b b1 : β} (h : some (a, b) = some (a1, b1)) : b = b1 := by cases h; rfl
theorem some_one {α : Type} {a a1 : α} (h : some a = some a1) : a = a1 := by cases h; rfl
/-! the worlds -/
def qs (n : Nat) (g : Nat → Nat) : vp_A := (n, .inr (.inr (.inr (.inr (fun i => if i < n then some (g i) else none)))))
def TY (cy : Nat → ClassId) : List (ClassId × FieldType) := [(cy 0, .int), (cy 1, .array .int), (cy 2, .char), (cy 3, .object "NoonWells$Field")]
def FW (cy : Nat → ClassId) (a : Nat → Nat) (V : FV) : va_W :=
  [(a 0, .inr (0, [.ref (a 1), .ref (a 2), .ref (a 3), .ref (a 4), .ref (a 5), .int (V 0 0), .int (V 0 1), .int (V 0 2), .int (V 0 3), .int (V 0 4)])),
   (a 1, .inl (cy 1, 13, .inr (.inr (.inr (.inr (fun i => if i < 13 then some (a (6 + i)) else none)))))),
   (a 2, .inl (cy 1, 3, .inr (.inr (.inr (.inr (fun i => if i < 3 then some (a (19 + i)) else none)))))),
   (a 3, .inl (cy 1, 3, .inr (.inr (.inr (.inr (fun i => if i < 3 then some (a (22 + i)) else none)))))),
   (a 4, .inl (cy 0, 2, .inl (V 4))),
   (a 5, .inl (cy 0, 12, .inl (V 5))),
   (a 6, .inl (cy 0, 12, .inl (V 6))), (a 7, .inl (cy 0, 12, .inl (V 7))), (a 8, .inl (cy 0, 12, .inl (V 8))), (a 9, .inl (cy 0, 12, .inl (V 9))),
   (a 10, .inl (cy 0, 12, .inl (V 10))), (a 11, .inl (cy 0, 12, .inl (V 11))), (a 12, .inl (cy 0, 12, .inl (V 12))), (a 13, .inl (cy 0, 12, .inl (V 13))),
   (a 14, .inl (cy 0, 12, .inl (V 14))), (a 15, .inl (cy 0, 12, .inl (V 15))), (a 16, .inl (cy 0, 12, .inl (V 16))), (a 17, .inl (cy 0, 12, .inl (V 17))),
   (a 18, .inl (cy 0, 12, .inl (V 18))),
   (a 19, .inl (cy 0, 20, .inl (V 19))), (a 20, .inl (cy 0, 20, .inl (V 20))), (a 21, .inl (cy 0, 20, .inl (V 21))),
   (a 22, .inl (cy 0, 8, .inl (V 22))), (a 23, .inl (cy 0, 8, .inl (V 23))), (a 24, .inl (cy 0, 8, .inl (V 24)))]
def SW (cy : Nat → ClassId) (a : Nat → Nat) (V : FV) : va_W :=
  [(a 0, .inr (2, [.ref (a 1), .ref (a 2), .int (V 0 0), .int (V 0 1), .int (V 0 2), .int (V 0 3), .int (V 0 4)])),
   (a 1, .inl (cy 2, 60, .inl (V 1))), (a 2, .inl (cy 0, 3, .inl (V 2)))]
def HW (cy : Nat → ClassId) (aa : Nat → Nat → Nat) (G : Nat → FV) : va_W :=
  [(aa 0 0, .inr (1, [.ref (aa 0 1), .int (G 0 0 0), .int (G 0 0 1)])),
   (aa 0 1, .inl (cy 3, 5, .inr (.inr (.inr (.inr (fun i => if i < 5 then some (aa (i + 1) 0) else none))))))] ++
  (FW cy (aa 1) (G 1) ++ (FW cy (aa 2) (G 2) ++ (FW cy (aa 3) (G 3) ++ (FW cy (aa 4) (G 4) ++ FW cy (aa 5) (G 5)))))
def NOb (aN : Nat → Nat → Nat) : va_W := [(aN 0 0, .inr (3, [.ref (aN 1 0), .ref (aN 2 0), .ref (aN 4 0), .ref (aN 3 0)]))]
def NW (cy : Nat → ClassId) (aN : Nat → Nat → Nat) (v1 v2 : FV) (G : Nat → FV) (v3 : FV) : va_W :=
  NOb aN ++ (FW cy (aN 1) v1 ++ (FW cy (aN 2) v2 ++ (SW cy (aN 3) v3 ++ HW cy (fun i => aN (4 + i)) G)))
def MW (cy : Nat → ClassId) (a : Nat → Nat) (V : FV) : va_W :=
  [(a 0, .inr (4, [.ref (a 1), .ref (a 2), .ref (a 3), .ref (a 4), .int (V 0 0), .int (V 0 1), .int (V 0 2), .int (V 0 3), .int (V 0 4), .ref (a 5), .int (V 0 5), .int (V 0 6)])),
   (a 1, .inl (cy 0, 236, .inl (V 1))), (a 2, .inl (cy 0, 236, .inl (V 2))), (a 3, .inl (cy 0, 944, .inl (V 3))), (a 4, .inl (cy 0, 60, .inl (V 4))), (a 5, .inl (cy 0, 3, .inl (V 5)))]
/-! what every method needs of the tables, beside its own words: nest mates' members -/
def NXl : List Cond := [.fieldLinkNest "NoonWells" 68 "NoonWells$Field" "wells" "[[I" "NoonWells", .fieldLinkNest "NoonWells" 53 "NoonWells$Field" "droughts" "[[I" "NoonWells", .fieldLinkNest "NoonWells" 87 "NoonWells$Field" "requests" "[[I" "NoonWells", .fieldLinkNest "NoonWells" 128 "NoonWells$Field" "settings" "[I" "NoonWells", .fieldLinkNest "NoonWells" 102 "NoonWells$Field" "shares" "[I" "NoonWells", .fieldLinkNest "NoonWells" 116 "NoonWells$Field" "wellCount" "I" "NoonWells", .fieldLinkNest "NoonWells" 49 "NoonWells$Field" "droughtCount" "I" "NoonWells", .fieldLinkNest "NoonWells" 122 "NoonWells$Field" "waiting" "I" "NoonWells", .fieldLinkNest "NoonWells" 61 "NoonWells$Field" "time" "I" "NoonWells", .fieldLinkNest "NoonWells$Script" 67 "NoonWells$Field" "time" "I" "NoonWells", .fieldLinkNest "NoonWells" 125 "NoonWells$Field" "drawnBehindWaiting" "I" "NoonWells", .fieldLinkNest "NoonWells" 134 "NoonWells$History" "size" "I" "NoonWells", .fieldLinkNest "NoonWells" 137 "NoonWells$Script" "length" "I" "NoonWells", .fieldLinkNest "NoonWells" 156 "NoonWells$Script" "orders" "I" "NoonWells", .fieldLinkNest "NoonWells" 153 "NoonWells$Script" "faultAt" "I" "NoonWells", .fieldLinkNest "NoonWells" 150 "NoonWells$Script" "reason" "I" "NoonWells", .methodLinkNest "NoonWells" 28 yX2_init "NoonWells", .methodLinkNest "NoonWells$Field" 76 yX3_areBuckets "NoonWells"]
def NX (U : State) : Prop := ∀ w ∈ NXl, va_Nw w U
theorem NXl_on : ∀ w ∈ NXl, w.onTables = true := by decide +kernel
theorem NX.same {u U : State} (h : u.vm = U.vm) (hN : NX u) : NX U := fun w hw => va_Nw.same (NXl_on w hw) h (hN w hw)
theorem NX.warm {s U : State} (hW : s.WarmedH U.vm) (hN : NX s) : NX U := by
  intro w hw
  have h := hN w hw
  simp only [NXl, List.mem_cons, List.not_mem_nil, or_false] at hw
  rcases hw with rfl | rfl | rfl | rfl | rfl | rfl | rfl | rfl | rfl | rfl | rfl | rfl | rfl | rfl | rfl | rfl | rfl | rfl <;> first | exact va_Nw.warmF hW h | exact va_Nw.warmM hW h
def KX (D : va_G) (cy : Nat → ClassId) (U : State) : Prop := va_K D vwCl (TY cy) U ∧ NX U
theorem KX.same {D : va_G} {cy : Nat → ClassId} {U : State} (h : KX D cy U) (g : JFrame) (mk : MethodId) (a : Array Value) : KX D cy (U.calling g mk a) := ⟨va_K.moved (u := U) (U := U.calling g mk a) (Vm.Alike.refl U.vm) h.1, NX.same (u := U) (U := U.calling g mk a) rfl h.2⟩
theorem KX.warm {D : va_G} {cy : Nat → ClassId} {s U : State} (hW : s.WarmedH U.vm) (h : KX D cy s) : KX D cy U := ⟨va_K.moved hW.alike h.1, NX.warm hW h.2⟩
/-! contracts -/
def PreX {S : Type} (D : va_G) (cy : Nat → ClassId) (wd : S → va_W) (u0 : S) (sz : Nat) (U : State) : Prop := U.heap.size = sz ∧ va_P D vwCl (wd u0) U.heap ∧ KX D cy U ∧ va_D (fun _ => True) (wd u0)
def PostX {S : Type} (D : va_G) (wd : S → va_W) (u0 : S) (sz : Nat) (u : S) (t : State) : Prop := va_P D vwCl (wd u) t.heap ∧ va_D (va_A (wd u0) sz) (wd u)
def RM (fr lc : Nat) : Room := { frames := fr, cells := 0, slots := 0, locals := lc }
def ConI {S : Type} (l : Launch) (y : MethodName) (ws : List Cond) (fr lc : Nat) (D : va_G) (cy : Nat → ClassId) (wd : S → va_W) (av : List Value) (u0 u1 : S) (r : Int32) : Prop :=
  ∀ sz : Nat, Met l y ws (RM fr lc) (va_Pc av (PreX D cy wd u0 sz)) (va_Qi (fun (r0 : Int32) (u : S) => r0 = r ∧ u = u1) (PostX D wd u0 sz) (va_A (wd u0) sz)) 0 0 (va_A (wd u0) sz)
def ConV {S : Type} (l : Launch) (y : MethodName) (ws : List Cond) (fr lc : Nat) (D : va_G) (cy : Nat → ClassId) (wd : S → va_W) (av : List Value) (u0 u1 : S) : Prop :=
  ∀ sz : Nat, Met l y ws (RM fr lc) (va_Pc av (PreX D cy wd u0 sz)) (va_Qv (fun (u : S) => u = u1) (PostX D wd u0 sz) (va_A (wd u0) sz)) 0 0 (va_A (wd u0) sz)
theorem PreX.blind {S : Type} {D : va_G} {cy : Nat → ClassId} {wd : S → va_W} {u0 : S} {sz : Nat} {av : List Value} : FrameBlind (va_Pc av (PreX D cy wd u0 sz)) := fun a _ g mk q => by
  obtain ⟨q0, q1, qP, qK, qD⟩ := q
  exact ⟨q0, q1, qP, qK.same g mk a, qD⟩
set_option maxHeartbeats 4000000 in
theorem bodyI {S : Type} {l : Launch} {y : MethodName} {ws ws' : List Cond} {fr lc : Nat} {D : va_G} {cy : Nat → ClassId} {wd : S → va_W} {av : List Value} {u0 u1 : S} {r : Int32} {cc : ByteArray} {maxL : Nat} {ty : FieldType}
    (hy : plainName y.cls = true) (hw : ws = Cond.code y cc maxL (some ty) :: ws') (hlen : (lg_sl av).length ≤ maxL)
    (body : ∀ (p : Program) (e : Env) (s : State) (m : MethodId) (args : Array Value) (below : List Frame) (meth : Method) (c : Code) (A : Nat → Prop) (Q : State → Prop), p.tables.exec = Jvm.exec → c.code = cc → c.maxLocals = maxL → (∀ w ∈ ws, w.before args s = true) → s.vm.findClass y.cls = some m.cls → KX D cy s → va_P D vwCl (wd u0) s.heap → va_D A (wd u0) → (∀ q : Nat, s.heap.size ≤ q → A q) → va_S A s.heap s.heap [] →
      (∀ (H : Heap) (locs : List Loc) (pc : Nat) (ls : Array Slot) (v : Int32) (u : S), v = r → u = u1 → narrow ty (.int v) = .int v → va_P D vwCl (wd u) H → va_D A (wd u) → va_S A s.heap H locs → decode cc pc = .ok (.ireturn, 1) → W p l e (RM fr lc) s m args below meth c H locs 0 0 Q (F0 m pc ls [.int v])) →
      ∀ ls0 : Array Slot, lv_has ls0 maxL (lv_args 0 av) → W p l e (RM fr lc) s m args below meth c s.heap [] 0 0 Q (F0 m 0 ls0 [])) : ConI l y ws fr lc D cy wd av u0 u1 r := by
  intro sz
  refine Met.ofW (cc := cc) (maxL := maxL) (ret := some ty) hy hw ?_
  intro p e s m args below meth c s₁ B hml hv
  obtain ⟨rfl, hsz, hP, hK, hD0⟩ := hv
  have hlocks := B.notSynchronized
  subst hsz
  have hD := hD0.self (sz := s.heap.size)
  rw [lg_entry_eq]
  refine body p e s m _ below meth c (va_A (wd u0) s.heap.size) _ B.exec B.bytes hml (atoms_spec (ws := ws) B.pre) (findClass_of_methodNamed B.named) hK hP hD (fun q h => Or.inr h) va_S.rf ?_ _ (lv_entry av hlen)
  intro H locs pc ls v u hv hu hn hP1 hD1 hS hdg
  exact W.zret (v := v) B.exec B.bytes B.returns hn (fun t ht hW => ⟨⟨v, u, rfl, ⟨hv, hu⟩, by rw [ht]; exact hP1, hD1⟩, hS.F ht⟩) hS.2.2 hdg
set_option maxHeartbeats 4000000 in
theorem bodyV {S : Type} {l : Launch} {y : MethodName} {ws ws' : List Cond} {fr lc : Nat} {D : va_G} {cy : Nat → ClassId} {wd : S → va_W} {av : List Value} {u0 u1 : S} {cc : ByteArray} {maxL : Nat}
    (hy : plainName y.cls = true) (hw : ws = Cond.code y cc maxL none :: ws') (hlen : (lg_sl av).length ≤ maxL)
    (body : ∀ (p : Program) (e : Env) (s : State) (m : MethodId) (args : Array Value) (below : List Frame) (meth : Method) (c : Code) (A : Nat → Prop) (Q : State → Prop), p.tables.exec = Jvm.exec → c.code = cc → c.maxLocals = maxL → (∀ w ∈ ws, w.before args s = true) → s.vm.findClass y.cls = some m.cls → KX D cy s → va_P D vwCl (wd u0) s.heap → va_D A (wd u0) → (∀ q : Nat, s.heap.size ≤ q → A q) → va_S A s.heap s.heap [] →
      (∀ (H : Heap) (locs : List Loc) (pc : Nat) (ls : Array Slot) (u : S), u = u1 → va_P D vwCl (wd u) H → va_D A (wd u) → va_S A s.heap H locs → decode cc pc = .ok (.return_, 1) → W p l e (RM fr lc) s m args below meth c H locs 0 0 Q (F0 m pc ls [])) →
      ∀ ls0 : Array Slot, lv_has ls0 maxL (lv_args 0 av) → W p l e (RM fr lc) s m args below meth c s.heap [] 0 0 Q (F0 m 0 ls0 [])) : ConV l y ws fr lc D cy wd av u0 u1 := by
  intro sz
  refine Met.ofW (cc := cc) (maxL := maxL) (ret := none) hy hw ?_
  intro p e s m args below meth c s₁ B hml hv
  obtain ⟨rfl, hsz, hP, hK, hD0⟩ := hv
  have hlocks := B.notSynchronized
  subst hsz
  have hD := hD0.self (sz := s.heap.size)
  rw [lg_entry_eq]
  refine body p e s m _ below meth c (va_A (wd u0) s.heap.size) _ B.exec B.bytes hml (atoms_spec (ws := ws) B.pre) (findClass_of_methodNamed B.named) hK hP hD (fun q h => Or.inr h) va_S.rf ?_ _ (lv_entry av hlen)
  intro H locs pc ls u hu hP1 hD1 hS hdg
  exact W.vret B.exec B.bytes B.returns (fun t ht hW => ⟨⟨u, rfl, hu, by rw [ht]; exact hP1, hD1⟩, hS.F ht⟩) hS.2.2 hdg
/-! the part of the world that a callee takes, and what stands behind the call -/
def Jn (D : va_G) (A : Nat → Prop) (ws wc w1 w' : va_W) : Prop := ∀ H : Heap, va_P D vwCl ws H → va_D A ws → (va_P D vwCl wc H ∧ va_D (fun _ => True) wc ∧ ∀ q : Nat, (∃ (k : Nat) (e : va_E), wc[k]? = some (q, e)) → A q) ∧
  ∀ H1 : Heap, (∀ q : Nat, q < H.size → ¬ va_A wc H.size q → H1[q]? = H[q]?) → va_P D vwCl w1 H1 → va_D (va_A wc H.size) w1 → (∀ q, va_A wc H.size q → A q) → va_P D vwCl w' H1 ∧ va_D A w'
theorem Jn.same {D : va_G} {A : Nat → Prop} {ws w1 : va_W} : Jn D A ws ws w1 w1 := fun _ hP hD =>
  ⟨⟨hP, hD.weaken (fun _ _ _ _ => trivial), fun q h => by obtain ⟨k, e, h⟩ := h; exact hD.2 k _ h⟩, fun _ _ hP1 hD1 hF => ⟨hP1, hD1.weaken (fun _ q _ h => hF q.1 h)⟩⟩
theorem Jn.none {D : va_G} {A : Nat → Prop} {ws : va_W} : Jn D A ws [] [] ws := fun H hP hD =>
  ⟨⟨fun k q h => by simp at h, ⟨fun i j p q h => by simp at h, fun k q h => by simp at h⟩, fun q h => by obtain ⟨k, e, h⟩ := h; simp at h⟩, fun H1 hk _ _ _ =>
    ⟨hP.kept (fun k q h => hk q.1 ((hP k q h).lt) (fun z => by
      rcases z with ⟨k2, e2, h2⟩ | h2
      · simp at h2
      · have := (hP k q h).lt; omega)), hD⟩⟩
theorem Jn.sub {D : va_G} {A : Nat → Prop} {ws wc wr w1 w' : va_W} (isC isR pm : List Nat) (hC : isC.map (fun i => ws[i]?) = wc.map some) (hR : isR.map (fun i => ws[i]?) = wr.map some) (hnC : va_nd isC = true) (hn : va_nd isR = true) (hdis : ∀ i ∈ isR, i ∉ isC) (hpn : va_nd pm = true) (hpm : pm.map (fun i => (wr ++ w1)[i]?) = w'.map some) : Jn D A ws wc w1 w' := fun H hP hD => by
  have key : ∀ (k : Nat) (q : Nat × va_E), wc[k]? = some q → ∃ i, isC[k]? = some i ∧ ws[i]? = some q := by
    intro k q hk
    have h1 : (isC.map (fun i => ws[i]?))[k]? = some (some q) := by rw [hC, List.getElem?_map, hk]; rfl
    rw [List.getElem?_map] at h1
    cases hi : isC[k]? with
    | none => rw [hi] at h1; cases h1
    | some i => rw [hi] at h1; exact ⟨i, rfl, Option.some.inj h1⟩
  refine ⟨⟨fun k q hk => ?_, (hD.sub isC hnC hC).weaken (fun _ _ _ _ => trivial), fun q h => ?_⟩, fun H1 hk hP1 hD1 hF => ?_⟩
  · obtain ⟨i, -, h2⟩ := key k q hk
    exact hP i q h2
  · obtain ⟨k, e, h⟩ := h
    obtain ⟨i, -, h2⟩ := key k (q, e) h
    exact hD.2 i _ h2
  · obtain ⟨a1, a2⟩ := va_join (wr := wr) (w1 := w1) hP hD isC isR hC hR hn hdis hk hF hP1 hD1
    refine ⟨?_, a2.sub pm hpn hpm⟩
    intro k q hq
    have h1 : (pm.map (fun i => (wr ++ w1)[i]?))[k]? = some (some q) := by rw [hpm, List.getElem?_map, hq]; rfl
    rw [List.getElem?_map] at h1
    cases hi : pm[k]? with
    | none => rw [hi] at h1; cases h1
    | some i => rw [hi] at h1; exact a1 i q (Option.some.inj h1)
section GC
variable {p : Program} {l : Launch} {e : Env} {R : Room} {s : State} {m : MethodId} {args : Array Value} {below : List Frame} {meth : Method} {c : Code} {H : Heap} {locs : List Loc} {cells slots : Nat} {Q : State → Prop}
variable {cc : ByteArray} {pc : Nat} {ls : Array Slot} {rest st0 : List Value} {D : va_G} {cy : Nat → ClassId} {A : Nat → Prop} {a : Nat} {ws w' : va_W} {H0 : Heap}
variable {S : Type} {wd : S → va_W} {u0 u1 : S} {r : Int32} {y : MethodName} {bytes : ByteArray} {maxL nL index fr lc ci N b n q0 : Nat} {ret : Option FieldType} {wsC ws1 Ts : List Cond} {own C host : String} {T : u_T} {As : List Value} {fs : List Value}
set_option maxHeartbeats 4000000 in
theorem gc_VI (hx : p.tables.exec = Jvm.exec) (hb : c.code = cc) (hml : c.maxLocals = nL) (hown : s.vm.findClass own = some m.cls) (hts : ∀ w ∈ Ts, w.before args s = true) (hK : KX D cy s) (hP : va_P D vwCl ws H) (hD : va_D A ws) (hS : va_S A H0 H locs) (hA : ∀ q : Nat, H0.size ≤ q → A q) (hsz : ls.size = nL) (hcs : cells ≤ R.cells ∧ slots ≤ R.slots)
    (hM : ConI l y wsC fr lc D cy wd (.ref b :: As) u0 u1 r) (hG : GoodIn Ts (wsV own index C y wsC)) (hw : wsC = Cond.code y bytes maxL ret :: ws1) (hd : y.cls = C ∧ y.cls ≠ "java/lang/invoke/MethodHandle" ∧ y.cls ≠ "java/lang/invoke/VarHandle" ∧ (parseMethodDescriptor y.desc).map (fun d => d.parameters.length) = some n) (hn : As.length = n) (hR : fr + 1 ≤ R.frames ∧ 8 + (maxL + 11) + lc ≤ R.locals)
    (hJ : Jn D A ws (wd u0) (wd u1) w') (hcl : vwCl[ci]? = some (C, T, N)) (hrc : (wd u0)[q0]? = some (b, .inr (ci, fs))) (hst : st0 = As.reverse ++ .ref b :: rest) (hW : (rest.map fun v => v.category).sum ≤ 8) (hdg : decode cc pc = .ok (.invokevirtual index, 3))
    (kk : ∀ (H1 : Heap) (locs1 : List Loc), va_P D vwCl w' H1 → va_D A w' → va_S A H0 H1 locs1 → W p l e R s m args below meth c H1 locs1 cells slots Q (F0 m (pc + 3) ls (.int r :: rest))) : W p l e R s m args below meth c H locs cells slots Q (F0 m pc ls st0) := by
  obtain ⟨⟨hPc, hDc, hFs⟩, hjoin⟩ := hJ H hP hD
  have hFc : ∀ q, va_A (wd u0) H.size q → A q := fun q h => h.elim (hFs q) (fun h => hA q (Nat.le_trans hS.1 h))
  refine va_calli (va_runV (As := As) (rest := rest) ⟨hx, hb, hml, hown, hts⟩ (hM H.size) (cwV n hts hG hw rfl rfl hd hR) ⟨PreX.blind, va_recv hK.1 hPc hcl hrc, fun U hU hW => ⟨rfl, by rw [hU], by rw [hU]; exact hPc, hK.warm hW, hDc⟩⟩ rfl hn hsz hst (lv_room hW) hdg ⟨hcs.1, hcs.2⟩) hS (fun q _ h => hFc q h) hFc (fun r2 u t H1 locs1 ht hvm hw hB hz1 hk1 hS1 => ?_)
  obtain ⟨rfl, rfl⟩ := hw
  obtain ⟨hP1, hD1⟩ := hB
  rw [ht] at hP1
  obtain ⟨a1, a2⟩ := hjoin H1 hk1 hP1 hD1 hFc
  exact kk H1 locs1 a1 a2 hS1
set_option maxHeartbeats 4000000 in
theorem gc_VV (hx : p.tables.exec = Jvm.exec) (hb : c.code = cc) (hml : c.maxLocals = nL) (hown : s.vm.findClass own = some m.cls) (hts : ∀ w ∈ Ts, w.before args s = true) (hK : KX D cy s) (hP : va_P D vwCl ws H) (hD : va_D A ws) (hS : va_S A H0 H locs) (hA : ∀ q : Nat, H0.size ≤ q → A q) (hsz : ls.size = nL) (hcs : cells ≤ R.cells ∧ slots ≤ R.slots)
    (hM : ConV l y wsC fr lc D cy wd (.ref b :: As) u0 u1) (hG : GoodIn Ts (wsV own index C y wsC)) (hw : wsC = Cond.code y bytes maxL ret :: ws1) (hd : y.cls = C ∧ y.cls ≠ "java/lang/invoke/MethodHandle" ∧ y.cls ≠ "java/lang/invoke/VarHandle" ∧ (parseMethodDescriptor y.desc).map (fun d => d.parameters.length) = some n) (hn : As.length = n) (hR : fr + 1 ≤ R.frames ∧ 8 + (maxL + 11) + lc ≤ R.locals)
    (hJ : Jn D A ws (wd u0) (wd u1) w') (hcl : vwCl[ci]? = some (C, T, N)) (hrc : (wd u0)[q0]? = some (b, .inr (ci, fs))) (hst : st0 = As.reverse ++ .ref b :: rest) (hW : (rest.map fun v => v.category).sum ≤ 8) (hdg : decode cc pc = .ok (.invokevirtual index, 3))
    (kk : ∀ (H1 : Heap) (locs1 : List Loc), va_P D vwCl w' H1 → va_D A w' → va_S A H0 H1 locs1 → W p l e R s m args below meth c H1 locs1 cells slots Q (F0 m (pc + 3) ls rest)) : W p l e R s m args below meth c H locs cells slots Q (F0 m pc ls st0) := by
  obtain ⟨⟨hPc, hDc, hFs⟩, hjoin⟩ := hJ H hP hD
  have hFc : ∀ q, va_A (wd u0) H.size q → A q := fun q h => h.elim (hFs q) (fun h => hA q (Nat.le_trans hS.1 h))
  refine va_callv (va_runV (As := As) (rest := rest) ⟨hx, hb, hml, hown, hts⟩ (hM H.size) (cwV n hts hG hw rfl rfl hd hR) ⟨PreX.blind, va_recv hK.1 hPc hcl hrc, fun U hU hW => ⟨rfl, by rw [hU], by rw [hU]; exact hPc, hK.warm hW, hDc⟩⟩ rfl hn hsz hst (lv_room hW) hdg ⟨hcs.1, hcs.2⟩) hS (fun q _ h => hFc q h) hFc (fun u t H1 locs1 ht hvm hw hB hz1 hk1 hS1 => ?_)
  obtain rfl := hw
  obtain ⟨hP1, hD1⟩ := hB
  rw [ht] at hP1
  obtain ⟨a1, a2⟩ := hjoin H1 hk1 hP1 hD1 hFc
  exact kk H1 locs1 a1 a2 hS1
set_option maxHeartbeats 4000000 in
theorem gc_SI (hx : p.tables.exec = Jvm.exec) (hb : c.code = cc) (hml : c.maxLocals = nL) (hown : s.vm.findClass own = some m.cls) (hts : ∀ w ∈ Ts, w.before args s = true) (hK : KX D cy s) (hP : va_P D vwCl ws H) (hD : va_D A ws) (hS : va_S A H0 H locs) (hA : ∀ q : Nat, H0.size ≤ q → A q) (hsz : ls.size = nL) (hcs : cells ≤ R.cells ∧ slots ≤ R.slots)
    (hM : ConI l y wsC fr lc D cy wd As u0 u1 r) (hG : GoodIn Ts (va_wsS own index y wsC)) (hw : wsC = Cond.code y bytes maxL ret :: ws1) (hd : y.cls ≠ "java/lang/invoke/MethodHandle" ∧ y.cls ≠ "java/lang/invoke/VarHandle" ∧ (parseMethodDescriptor y.desc).map (fun d => d.parameters.length) = some n) (hn : As.length = n) (hR : fr + 1 ≤ R.frames ∧ 8 + (maxL + 11) + lc ≤ R.locals)
    (hJ : Jn D A ws (wd u0) (wd u1) w') (hst : st0 = As.reverse ++ rest) (hW : (rest.map fun v => v.category).sum ≤ 8) (hdg : decode cc pc = .ok (.invokestatic index, 3))
    (kk : ∀ (H1 : Heap) (locs1 : List Loc), va_P D vwCl w' H1 → va_D A w' → va_S A H0 H1 locs1 → W p l e R s m args below meth c H1 locs1 cells slots Q (F0 m (pc + 3) ls (.int r :: rest))) : W p l e R s m args below meth c H locs cells slots Q (F0 m pc ls st0) := by
  obtain ⟨⟨hPc, hDc, hFs⟩, hjoin⟩ := hJ H hP hD
  have hFc : ∀ q, va_A (wd u0) H.size q → A q := fun q h => h.elim (hFs q) (fun h => hA q (Nat.le_trans hS.1 h))
  refine va_calli (va_runS (As := As) (rest := rest) ⟨hx, hb, hml, hown, hts⟩ (hM H.size) (va_cwS n hts hG hw rfl rfl hd hR) ⟨PreX.blind, fun U hU hW => ⟨rfl, by rw [hU], by rw [hU]; exact hPc, hK.warm hW, hDc⟩⟩ rfl hn hsz hst (lv_room hW) hdg ⟨hcs.1, hcs.2⟩) hS (fun q _ h => hFc q h) hFc (fun r2 u t H1 locs1 ht hvm hw hB hz1 hk1 hS1 => ?_)
  obtain ⟨rfl, rfl⟩ := hw
  obtain ⟨hP1, hD1⟩ := hB
  rw [ht] at hP1
  obtain ⟨a1, a2⟩ := hjoin H1 hk1 hP1 hD1 hFc
  exact kk H1 locs1 a1 a2 hS1
set_option maxHeartbeats 4000000 in
theorem gc_SV (hx : p.tables.exec = Jvm.exec) (hb : c.code = cc) (hml : c.maxLocals = nL) (hown : s.vm.findClass own = some m.cls) (hts : ∀ w ∈ Ts, w.before args s = true) (hK : KX D cy s) (hP : va_P D vwCl ws H) (hD : va_D A ws) (hS : va_S A H0 H locs) (hA : ∀ q : Nat, H0.size ≤ q → A q) (hsz : ls.size = nL) (hcs : cells ≤ R.cells ∧ slots ≤ R.slots)
    (hM : ConV l y wsC fr lc D cy wd As u0 u1) (hG : GoodIn Ts (va_wsS own index y wsC)) (hw : wsC = Cond.code y bytes maxL ret :: ws1) (hd : y.cls ≠ "java/lang/invoke/MethodHandle" ∧ y.cls ≠ "java/lang/invoke/VarHandle" ∧ (parseMethodDescriptor y.desc).map (fun d => d.parameters.length) = some n) (hn : As.length = n) (hR : fr + 1 ≤ R.frames ∧ 8 + (maxL + 11) + lc ≤ R.locals)
    (hJ : Jn D A ws (wd u0) (wd u1) w') (hst : st0 = As.reverse ++ rest) (hW : (rest.map fun v => v.category).sum ≤ 8) (hdg : decode cc pc = .ok (.invokestatic index, 3))
    (kk : ∀ (H1 : Heap) (locs1 : List Loc), va_P D vwCl w' H1 → va_D A w' → va_S A H0 H1 locs1 → W p l e R s m args below meth c H1 locs1 cells slots Q (F0 m (pc + 3) ls rest)) : W p l e R s m args below meth c H locs cells slots Q (F0 m pc ls st0) := by
  obtain ⟨⟨hPc, hDc, hFs⟩, hjoin⟩ := hJ H hP hD
  have hFc : ∀ q, va_A (wd u0) H.size q → A q := fun q h => h.elim (hFs q) (fun h => hA q (Nat.le_trans hS.1 h))
  refine va_callv (va_runS (As := As) (rest := rest) ⟨hx, hb, hml, hown, hts⟩ (hM H.size) (va_cwS n hts hG hw rfl rfl hd hR) ⟨PreX.blind, fun U hU hW => ⟨rfl, by rw [hU], by rw [hU]; exact hPc, hK.warm hW, hDc⟩⟩ rfl hn hsz hst (lv_room hW) hdg ⟨hcs.1, hcs.2⟩) hS (fun q _ h => hFc q h) hFc (fun u t H1 locs1 ht hvm hw hB hz1 hk1 hS1 => ?_)
  obtain rfl := hw
  obtain ⟨hP1, hD1⟩ := hB
  rw [ht] at hP1
  obtain ⟨a1, a2⟩ := hjoin H1 hk1 hP1 hD1 hFc
  exact kk H1 locs1 a1 a2 hS1
set_option maxHeartbeats 4000000 in
/-- a static member of a nest mate -/
theorem gc_SNI (hx : p.tables.exec = Jvm.exec) (hb : c.code = cc) (hml : c.maxLocals = nL) (hown : s.vm.findClass own = some m.cls) (hts : ∀ w ∈ Ts, w.before args s = true) (hK : KX D cy s) (hP : va_P D vwCl ws H) (hD : va_D A ws) (hS : va_S A H0 H locs) (hA : ∀ q : Nat, H0.size ≤ q → A q) (hsz : ls.size = nL) (hcs : cells ≤ R.cells ∧ slots ≤ R.slots)
    (hM : ConI l y wsC fr lc D cy wd As u0 u1 r) (hG : GoodIn Ts wsC) (hl : Cond.methodLinkNest own index y host ∈ NXl) (hini : (Cond.initialized y.cls).before args s = true) (hsta : (Cond.static y).before args s = true) (hw : wsC = Cond.code y bytes maxL ret :: ws1) (hd : y.cls ≠ "java/lang/invoke/MethodHandle" ∧ y.cls ≠ "java/lang/invoke/VarHandle" ∧ (parseMethodDescriptor y.desc).map (fun d => d.parameters.length) = some n) (hn : As.length = n) (hR : fr + 1 ≤ R.frames ∧ 8 + (maxL + 11) + lc ≤ R.locals)
    (hJ : Jn D A ws (wd u0) (wd u1) w') (hst : st0 = As.reverse ++ rest) (hW : (rest.map fun v => v.category).sum ≤ 8) (hdg : decode cc pc = .ok (.invokestatic index, 3))
    (kk : ∀ (H1 : Heap) (locs1 : List Loc), va_P D vwCl w' H1 → va_D A w' → va_S A H0 H1 locs1 → W p l e R s m args below meth c H1 locs1 cells slots Q (F0 m (pc + 3) ls (.int r :: rest))) : W p l e R s m args below meth c H locs cells slots Q (F0 m pc ls st0) := by
  obtain ⟨⟨hPc, hDc, hFs⟩, hjoin⟩ := hJ H hP hD
  have hFc : ∀ q, va_A (wd u0) H.size q → A q := fun q h => h.elim (hFs q) (fun h => hA q (Nat.le_trans hS.1 h))
  refine va_calli (va_runSN (As := As) (rest := rest) (host := host) ⟨hx, hb, hml, hown, hts⟩ (hM H.size) ⟨va_cnB n hts hG hw rfl rfl (hK.2 _ hl) hini hd hR, hsta, trivial⟩ ⟨PreX.blind, fun U hU hW => ⟨rfl, by rw [hU], by rw [hU]; exact hPc, hK.warm hW, hDc⟩⟩ rfl hn hsz hst (lv_room hW) hdg ⟨hcs.1, hcs.2⟩) hS (fun q _ h => hFc q h) hFc (fun r2 u t H1 locs1 ht hvm hw hB hz1 hk1 hS1 => ?_)
  obtain ⟨rfl, rfl⟩ := hw
  obtain ⟨hP1, hD1⟩ := hB
  rw [ht] at hP1
  obtain ⟨a1, a2⟩ := hjoin H1 hk1 hP1 hD1 hFc
  exact kk H1 locs1 a1 a2 hS1
/-! rows with the value, and the world behind, as wanted -/
theorem g_iald (hexec : p.tables.exec = Jvm.exec) (hb : c.code = cc) (hK : KX D cy s) (hP : va_P D vwCl ws H) (q0 : Nat) {n : Nat} {f : Nat → Int32} (ha : ws[q0]? = some (a, .inl (cy 0, n, .inl f))) {i x : Int32} (hin : vp_in i n) (hv : f i.toNatClampNeg = x) (hdg : decode cc pc = .ok (.iaload, 1))
    (kk : W p l e R s m args below meth c H locs cells slots Q (F0 m (pc + 1) ls (.int x :: rest))) : W p l e R s m args below meth c H locs cells slots Q (F0 m pc ls (.int i :: .ref a :: rest)) := by
  subst hv
  exact va_iald hexec hb hK.1 hP q0 0 ha rfl hin hdg kk
theorem g_cald (hexec : p.tables.exec = Jvm.exec) (hb : c.code = cc) (hK : KX D cy s) (hP : va_P D vwCl ws H) (q0 : Nat) {n : Nat} {f : Nat → Int32} (ha : ws[q0]? = some (a, .inl (cy 2, n, .inl f))) {i x : Int32} (hin : vp_in i n) (hv : f i.toNatClampNeg = x) (hdg : decode cc pc = .ok (.caload, 1))
    (kk : W p l e R s m args below meth c H locs cells slots Q (F0 m (pc + 1) ls (.int x :: rest))) : W p l e R s m args below meth c H locs cells slots Q (F0 m pc ls (.int i :: .ref a :: rest)) := by
  subst hv
  exact va_cald hexec hb hK.1 hP q0 2 ha rfl hin hdg kk
theorem g_iast (hexec : p.tables.exec = Jvm.exec) (hb : c.code = cc) (hK : KX D cy s) (hP : va_P D vwCl ws H) (hD : va_D A ws) (hS : va_S A H0 H locs) (q0 : Nat) {n : Nat} {f : Nat → Int32} (ha : ws[q0]? = some (a, .inl (cy 0, n, .inl f))) {i x : Int32} (hin : vp_in i n) (hw : ws.set q0 (a, .inl (cy 0, n, .inl (upd f i.toNatClampNeg x))) = w') (hdg : decode cc pc = .ok (.iastore, 1))
    (kk : ∀ (H1 : Heap) (locs1 : List Loc), va_P D vwCl w' H1 → va_D A w' → va_S A H0 H1 locs1 → W p l e R s m args below meth c H1 locs1 cells slots Q (F0 m (pc + 1) ls rest)) : W p l e R s m args below meth c H locs cells slots Q (F0 m pc ls (.int x :: .int i :: .ref a :: rest)) := by
  subst hw
  exact va_iast hexec hb hK.1 hP hD hS q0 0 ha rfl hin hdg kk
/-- an array of rows of numbers is read at an index -/
theorem g_aald (hexec : p.tables.exec = Jvm.exec) (hb : c.code = cc) (hK : KX D cy s) (hP : va_P D vwCl ws H) (q0 : Nat) {n v : Nat} {f : Nat → Option Nat} (ha : ws[q0]? = some (a, .inl (cy 1, n, .inr (.inr (.inr (.inr f)))))) {i : Int32} (hin : vp_in i n) (hv : f i.toNatClampNeg = some v) (hdg : decode cc pc = .ok (.aaload, 1))
    (kk : W p l e R s m args below meth c H locs cells slots Q (F0 m (pc + 1) ls (.ref v :: rest))) : W p l e R s m args below meth c H locs cells slots Q (F0 m pc ls (.int i :: .ref a :: rest)) := by
  have hlt : i.toNatClampNeg < n := Nat.not_le.mp fun q => hin (Or.inr q)
  exact W.aald (v := .ref v) (ty := .array .int) hexec hb (hP q0 _ ha) ((hK.1.2 1 _ rfl).1 n (fun j => va_rf (f j))) rfl (fun q => by cases q) (by show ¬ (i < 0 ∨ (arrV _ _ _).slots.size ≤ _); rw [arrV_size]; exact hin) (by show (arrV _ _ _).slots[_]? = _; rw [arrV_read _ _ hlt, hv]; rfl) rfl rfl hdg kk
theorem g_put (hexec : p.tables.exec = Jvm.exec) (hb : c.code = cc) {ref C : String} {T : u_T} {N ci index : Nat} {Ts : List Cond} (hts : ∀ w ∈ Ts, w.before args s = true) (hin : ∀ w ∈ u_ws C T N, w ∈ Ts) (ty0 : Nat → FieldType) (hty : ∀ k, k < N → parseFieldDescriptor (T k).2.2.1 = some (ty0 k)) (hnm : ∀ a, a < N → ∀ b, b < N → a ≠ b → (T a).2.1 ≠ (T b).2.1) (hown : s.vm.findClass own = some m.cls) (hK : KX D cy s) (hP : va_P D vwCl ws H) (hD : va_D A ws) (hS0 : va_S A H0 H locs) (q0 : Nat) {fs : List Value} (he : ws[q0]? = some (a, .inr (ci, fs))) (hc : vwCl[ci]? = some (C, T, N)) (k : Nat) (hk : k < N) (hlink : (Cond.fieldLink own index ref (T k).2.1 (T k).2.2.1).before args s = true) (hsame : ∀ x, s.fieldFound? (T k).1 (T k).2.1 (T k).2.2.1 = some x → s.fieldFound? ref (T k).2.1 (T k).2.2.1 = some x) (hfin : (T k).2.2.2 = false) {x : Int32} (hd : parseFieldDescriptor (T k).2.2.1 = some .int) (hl : k < fs.length) (hw : ws.set q0 (a, .inr (ci, fs.set k (.int x))) = w')
    (hdg : decode cc pc = .ok (.putfield index, 3)) (kk : ∀ (H1 : Heap) (locs1 : List Loc), va_P D vwCl w' H1 → va_D A w' → va_S A H0 H1 locs1 → W p l e R s m args below meth c H1 locs1 cells slots Q (F0 m (pc + 3) ls rest)) : W p l e R s m args below meth c H locs cells slots Q (F0 m pc ls (.int x :: .ref a :: rest)) := by
  subst hw
  exact va_put hexec hb hts hin ty0 hty hnm hown hK.1 hP hD hS0 q0 he hc k hk hlink hsame hfin hd rfl rfl hl hdg kk
end GC
theorem vp_lit {i : Int32} {n : Nat} (h : (decide (i < 0) || decide (n ≤ i.toNatClampNeg)) = false) : vp_in i n := by
  intro q
  rcases q with q | q
  · simp [q] at h
  · simp [q] at h
theorem FW_row {cy : Nat → ClassId} {a : Nat → Nat} {V : FV} : ∀ {i : Nat}, i < 13 → (FW cy a V)[6 + i]? = some (a (6 + i), .inl (cy 0, 12, .inl (V (6 + i)))) := by
  intro i h
  match i, h with
  | 0, _ => rfl | 1, _ => rfl | 2, _ => rfl | 3, _ => rfl | 4, _ => rfl | 5, _ => rfl | 6, _ => rfl | 7, _ => rfl | 8, _ => rfl | 9, _ => rfl | 10, _ => rfl | 11, _ => rfl | 12, _ => rfl
theorem FW_dry {cy : Nat → ClassId} {a : Nat → Nat} {V : FV} : ∀ {i : Nat}, i < 3 → (FW cy a V)[19 + i]? = some (a (19 + i), .inl (cy 0, 20, .inl (V (19 + i)))) := by
  intro i h
  match i, h with
  | 0, _ => rfl | 1, _ => rfl | 2, _ => rfl
theorem FW_req {cy : Nat → ClassId} {a : Nat → Nat} {V : FV} : ∀ {i : Nat}, i < 3 → (FW cy a V)[22 + i]? = some (a (22 + i), .inl (cy 0, 8, .inl (V (22 + i)))) := by
  intro i h
  match i, h with
  | 0, _ => rfl | 1, _ => rfl | 2, _ => rfl
theorem FW_reqS {cy : Nat → ClassId} {a : Nat → Nat} {V : FV} {j : Nat} {x : Int32} : ∀ {i : Nat}, i < 3 → (FW cy a V).set (22 + i) (a (22 + i), .inl (cy 0, 8, .inl (upd (V (22 + i)) j x))) = FW cy a (st V (22 + i) j x) := by
  intro i h
  match i, h with
  | 0, _ => rfl | 1, _ => rfl | 2, _ => rfl
/-! more of the ground: Math.min, Arrays.fill, worlds by permutation, switches -/
def jmin (x y : Int32) : Int32 := if y < x then y else x
def fillF (n : Nat) (f : Nat → Int32) (x : Int32) : Nat → Int32 := fun j => if j < n then x else f j
def fillV (V : FV) (k n : Nat) (x : Int32) : FV := fun a => if a = k then fillF n (V k) x else V a
def stG (G : Nat → FV) (g i j : Nat) (x : Int32) : Nat → FV := fun a => if a = g then st (G g) i j x else G a
theorem vp_all {D : va_G} {cl : List vw_C} {ws : va_W} {H : Heap} : va_P D cl ws H ↔ ∀ q ∈ ws, va_at D cl q H := by
  refine ⟨fun h q hq => ?_, fun h k q hk => h q (List.mem_of_getElem? hk)⟩
  obtain ⟨k, hk⟩ := List.getElem?_of_mem hq
  exact h k q hk
theorem vd_all {A : Nat → Prop} {ws : va_W} : va_D A ws ↔ (ws.map (fun q => q.1)).Nodup ∧ ∀ q ∈ ws, A q.1 := by
  constructor
  · intro h
    refine ⟨?_, fun q hq => ?_⟩
    · refine List.pairwise_iff_getElem.mpr (fun i j hi hj hij heq => ?_)
      rw [List.getElem_map, List.getElem_map] at heq
      have := h.1 i j _ _ (List.getElem?_eq_getElem (by simpa using hi)) (List.getElem?_eq_getElem (by simpa using hj)) heq
      omega
    · obtain ⟨k, hk⟩ := List.getElem?_of_mem hq
      exact h.2 k q hk
  · intro h
    refine ⟨fun i j p q hi hj hpq => ?_, fun k q hk => h.2 q (List.mem_of_getElem? hk)⟩
    have hn := List.pairwise_iff_getElem.mp h.1
    obtain ⟨li, ei⟩ := List.getElem?_eq_some_iff.mp hi
    obtain ⟨lj, ej⟩ := List.getElem?_eq_some_iff.mp hj
    rcases Nat.lt_trichotomy i j with c | c | c
    · exact absurd (by rw [List.getElem_map, List.getElem_map, ei, ej]; exact hpq) (hn i j (by rw [List.length_map]; exact li) (by rw [List.length_map]; exact lj) c)
    · exact c
    · exact absurd (by rw [List.getElem_map, List.getElem_map, ei, ej]; exact hpq.symm) (hn j i (by rw [List.length_map]; exact lj) (by rw [List.length_map]; exact li) c)
theorem va_in_A {ws : va_W} {sz : Nat} {q : Nat × va_E} (h : q ∈ ws) : va_A ws sz q.1 := by
  obtain ⟨k, hk⟩ := List.getElem?_of_mem h
  exact Or.inl ⟨k, q.2, hk⟩
theorem Jn.perm {D : va_G} {A : Nat → Prop} {ws wc w1 w' R : va_W} (h0 : ws.Perm (wc ++ R)) (h1 : w'.Perm (w1 ++ R)) : Jn D A ws wc w1 w' := fun H hP hD => by
  rw [vp_all] at hP
  rw [vd_all] at hD
  have hnd : ((wc ++ R).map (fun q => q.1)).Nodup := (List.Perm.nodup_iff (h0.map _)).mp hD.1
  rw [List.map_append, List.nodup_append] at hnd
  obtain ⟨n1, n2, n3⟩ := hnd
  have inC : ∀ q ∈ wc, q ∈ ws := fun q h => h0.mem_iff.mpr (List.mem_append_left _ h)
  have inR : ∀ q ∈ R, q ∈ ws := fun q h => h0.mem_iff.mpr (List.mem_append_right _ h)
  have apart : ∀ q ∈ R, q.1 < H.size ∧ ¬ va_A wc H.size q.1 := fun q h => by
    have hl := (hP q (inR q h)).lt
    refine ⟨hl, fun z => ?_⟩
    rcases z with ⟨k, e, hk⟩ | z
    · exact n3 q.1 (List.mem_map.mpr ⟨_, List.mem_of_getElem? hk, rfl⟩) q.1 (List.mem_map.mpr ⟨q, h, rfl⟩) rfl
    · omega
  refine ⟨⟨vp_all.mpr (fun q h => hP q (inC q h)), vd_all.mpr ⟨n1, fun _ _ => trivial⟩, fun q h => ?_⟩, fun H1 hk hP1 hD1 hF => ⟨?_, ?_⟩⟩
  · obtain ⟨k, e, hk⟩ := h
    exact hD.2 _ (inC _ (List.mem_of_getElem? hk))
  · rw [vp_all] at hP1 ⊢
    intro q hq
    rcases List.mem_append.mp (h1.mem_iff.mp hq) with h | h
    · exact hP1 q h
    · exact (hP q (inR q h)).kept (hk q.1 (apart q h).1 (apart q h).2)
  · rw [vd_all] at hD1 ⊢
    refine ⟨(List.Perm.nodup_iff (h1.map _)).mpr ?_, fun q hq => ?_⟩
    · rw [List.map_append, List.nodup_append]
      refine ⟨hD1.1, n2, fun x hx y hy hxy => ?_⟩
      obtain ⟨q1, g1, rfl⟩ := List.mem_map.mp hx
      obtain ⟨q2, g2, rfl⟩ := List.mem_map.mp hy
      have := hD1.2 q1 g1
      rw [hxy] at this
      exact (apart q2 g2).2 this
    · rcases List.mem_append.mp (h1.mem_iff.mp hq) with h | h
      · exact hF _ (hD1.2 q h)
      · exact hD.2 q (inR q h)
theorem NW_now {cy : Nat → ClassId} {aN : Nat → Nat → Nat} {v2 v3 : FV} {G : Nat → FV} {v1 : FV} : (NW cy aN v1 v2 G v3).Perm (FW cy (aN 1) v1 ++ (NOb aN ++ (FW cy (aN 2) v2 ++ (SW cy (aN 3) v3 ++ HW cy (fun i => aN (4 + i)) G)))) := List.perm_append_comm_assoc (NOb aN) _ _
theorem pm_3 {α : Type} (x a b c : List α) : (x ++ (a ++ (b ++ c))).Perm (b ++ (x ++ (a ++ c))) := by
  refine (List.Perm.append_left x (List.perm_append_comm_assoc a b c)).trans ?_
  exact List.perm_append_comm_assoc x b _
theorem NW_trial {cy : Nat → ClassId} {aN : Nat → Nat → Nat} {v1 v3 : FV} {G : Nat → FV} {v2 : FV} : (NW cy aN v1 v2 G v3).Perm (FW cy (aN 2) v2 ++ (NOb aN ++ (FW cy (aN 1) v1 ++ (SW cy (aN 3) v3 ++ HW cy (fun i => aN (4 + i)) G)))) := pm_3 (NOb aN) _ _ _
theorem pm_4 {α : Type} (x a b c d : List α) : (x ++ (a ++ (b ++ (c ++ d)))).Perm (c ++ (x ++ (a ++ (b ++ d)))) := by
  refine (List.Perm.append_left x (pm_3 a b c d)).trans ?_
  exact List.perm_append_comm_assoc x c _
theorem NW_script {cy : Nat → ClassId} {aN : Nat → Nat → Nat} {v1 v2 : FV} {G : Nat → FV} {v3 : FV} : (NW cy aN v1 v2 G v3).Perm (SW cy (aN 3) v3 ++ (NOb aN ++ (FW cy (aN 1) v1 ++ (FW cy (aN 2) v2 ++ HW cy (fun i => aN (4 + i)) G)))) := pm_4 (NOb aN) _ _ _ _
theorem pm_5 {α : Type} (x a b c d : List α) : (x ++ (a ++ (b ++ (c ++ d)))).Perm (d ++ (x ++ (a ++ (b ++ c)))) := by
  have h : (x ++ (a ++ (b ++ (c ++ d)))) = (x ++ (a ++ (b ++ c))) ++ d := by simp [List.append_assoc]
  rw [h]
  exact List.perm_append_comm
theorem NW_hist {cy : Nat → ClassId} {aN : Nat → Nat → Nat} {v1 v2 v3 : FV} {G : Nat → FV} : (NW cy aN v1 v2 G v3).Perm (HW cy (fun i => aN (4 + i)) G ++ (NOb aN ++ (FW cy (aN 1) v1 ++ (FW cy (aN 2) v2 ++ SW cy (aN 3) v3)))) := pm_5 (NOb aN) _ _ _ _
/-- the trial field and the text, the field first -/
theorem NW_ts {cy : Nat → ClassId} {aN : Nat → Nat → Nat} {v1 v2 v3 : FV} {G : Nat → FV} : (NW cy aN v1 v2 G v3).Perm ((FW cy (aN 2) v2 ++ SW cy (aN 3) v3) ++ (NOb aN ++ (FW cy (aN 1) v1 ++ HW cy (fun i => aN (4 + i)) G))) := by
  have h := pm_3 (NOb aN) (FW cy (aN 1) v1) (FW cy (aN 2) v2 ++ SW cy (aN 3) v3) (HW cy (fun i => aN (4 + i)) G)
  rw [List.append_assoc (FW cy (aN 2) v2)] at h
  exact h
/-- the field first, then the trial -/
theorem NW_nt {cy : Nat → ClassId} {aN : Nat → Nat → Nat} {v1 v2 v3 : FV} {G : Nat → FV} : (NW cy aN v1 v2 G v3).Perm ((FW cy (aN 1) v1 ++ FW cy (aN 2) v2) ++ (NOb aN ++ (SW cy (aN 3) v3 ++ HW cy (fun i => aN (4 + i)) G))) := by
  have h := List.perm_append_comm_assoc (NOb aN) (FW cy (aN 1) v1 ++ FW cy (aN 2) v2) (SW cy (aN 3) v3 ++ HW cy (fun i => aN (4 + i)) G)
  rw [List.append_assoc (FW cy (aN 1) v1)] at h
  exact h
theorem NW_tn {cy : Nat → ClassId} {aN : Nat → Nat → Nat} {v1 v2 v3 : FV} {G : Nat → FV} : (NW cy aN v1 v2 G v3).Perm ((FW cy (aN 2) v2 ++ FW cy (aN 1) v1) ++ (NOb aN ++ (SW cy (aN 3) v3 ++ HW cy (fun i => aN (4 + i)) G))) := NW_nt.trans (List.Perm.append_right _ List.perm_append_comm)
/-- the history, then the field -/
theorem NW_hn {cy : Nat → ClassId} {aN : Nat → Nat → Nat} {v1 v2 v3 : FV} {G : Nat → FV} : (NW cy aN v1 v2 G v3).Perm ((HW cy (fun i => aN (4 + i)) G ++ FW cy (aN 1) v1) ++ (NOb aN ++ (FW cy (aN 2) v2 ++ SW cy (aN 3) v3))) := by
  refine NW_hist.trans ?_
  rw [List.append_assoc]
  exact List.Perm.append_left _ (List.perm_append_comm_assoc (NOb aN) (FW cy (aN 1) v1) _)
section GD
variable {p : Program} {l : Launch} {e : Env} {R : Room} {s : State} {m : MethodId} {args : Array Value} {below : List Frame} {meth : Method} {c : Code} {H : Heap} {locs : List Loc} {cells slots : Nat} {Q : State → Prop}
variable {cc : ByteArray} {pc : Nat} {ls : Array Slot} {rest st0 : List Value} {D : va_G} {cy : Nat → ClassId} {A : Nat → Prop} {a : Nat} {ws w' : va_W} {H0 : Heap}
theorem g_min {x y v : Int32} (hv : jmin x y = v) {nL : Nat} (hexec : p.tables.exec = Jvm.exec) (hb : c.code = cc) (hml : c.maxLocals = nL) (hsz : ls.size = nL) {own : String} {index : Nat} (hown : s.vm.findClass own = some m.cls) (hlink : (Cond.methodLink own index Lib.Math.min.name).before args s = true) (hstat : (Cond.static Lib.Math.min.name).before args s = true) (hini : (Cond.initialized "java/lang/Math").before args s = true) (hcode : (Cond.code Lib.Math.min.name Lib.Math.min.code 2 (some .int)).before args s = true)
    (hframes : 1 ≤ R.frames) (hlocals : (rest.map fun v => v.category).sum + 13 ≤ R.locals) (hc : cells ≤ R.cells) (hs : slots ≤ R.slots) (hdg : decode cc pc = .ok (.invokestatic index, 3))
    (kk : W p l e R s m args below meth c H locs cells slots Q (F0 m (pc + 3) ls (.int v :: rest))) : W p l e R s m args below meth c H locs cells slots Q (F0 m pc ls (.int y :: .int x :: rest)) := by
  subst hv
  exact va_mmin hexec hb (hml.trans hsz.symm) hown hlink hstat hini hcode hframes hlocals hc hs hdg kk
theorem g_cast (hexec : p.tables.exec = Jvm.exec) (hb : c.code = cc) (hK : KX D cy s) (hP : va_P D vwCl ws H) (hD : va_D A ws) (hS : va_S A H0 H locs) (q0 : Nat) {n : Nat} {f : Nat → Int32} (ha : ws[q0]? = some (a, .inl (cy 2, n, .inl f))) {i x : Int32} (hin : vp_in i n) (hw : ws.set q0 (a, .inl (cy 2, n, .inl (upd f i.toNatClampNeg (vp_nar .char x)))) = w') (hdg : decode cc pc = .ok (.castore, 1))
    (kk : ∀ (H1 : Heap) (locs1 : List Loc), va_P D vwCl w' H1 → va_D A w' → va_S A H0 H1 locs1 → W p l e R s m args below meth c H1 locs1 cells slots Q (F0 m (pc + 1) ls rest)) : W p l e R s m args below meth c H locs cells slots Q (F0 m pc ls (.int x :: .int i :: .ref a :: rest)) := by
  subst hw
  exact va_cast hexec hb hK.1 hP hD hS q0 2 ha rfl hin hdg kk
theorem g_putN (hexec : p.tables.exec = Jvm.exec) (hb : c.code = cc) {own ref C host : String} {T : u_T} {N ci index : Nat} {Ts : List Cond} (hts : ∀ w ∈ Ts, w.before args s = true) (hin : ∀ w ∈ u_ws C T N, w ∈ Ts) (ty0 : Nat → FieldType) (hty : ∀ k, k < N → parseFieldDescriptor (T k).2.2.1 = some (ty0 k)) (hnm : ∀ a, a < N → ∀ b, b < N → a ≠ b → (T a).2.1 ≠ (T b).2.1) (hown : s.vm.findClass own = some m.cls) (hK : KX D cy s) (hP : va_P D vwCl ws H) (hD : va_D A ws) (hS0 : va_S A H0 H locs) (q0 : Nat) {fs : List Value} (he : ws[q0]? = some (a, .inr (ci, fs))) (hc : vwCl[ci]? = some (C, T, N)) (k : Nat) (hk : k < N) (hlink : (Cond.fieldLinkNest own index ref (T k).2.1 (T k).2.2.1 host).before args s = true) (hsame : ∀ x, s.fieldFound? (T k).1 (T k).2.1 (T k).2.2.1 = some x → s.fieldFound? ref (T k).2.1 (T k).2.2.1 = some x) (hfin : (T k).2.2.2 = false) {x : Int32} (hd : parseFieldDescriptor (T k).2.2.1 = some .int) (hl : k < fs.length) (hw : ws.set q0 (a, .inr (ci, fs.set k (.int x))) = w')
    (hdg : decode cc pc = .ok (.putfield index, 3)) (kk : ∀ (H1 : Heap) (locs1 : List Loc), va_P D vwCl w' H1 → va_D A w' → va_S A H0 H1 locs1 → W p l e R s m args below meth c H1 locs1 cells slots Q (F0 m (pc + 3) ls rest)) : W p l e R s m args below meth c H locs cells slots Q (F0 m pc ls (.int x :: .ref a :: rest)) := by
  subst hw
  exact va_putN hexec hb hts hin ty0 hty hnm hown hK.1 hP hD hS0 q0 he hc k hk hlink hsame hfin hd rfl rfl hl hdg kk
end GD
/-! what a switch's default means -/
theorem sw_ti {x : Int32} {k : Int} (K : Int32) (hK : K.toInt = k) (h : ¬ x = K) : x.toInt ≠ k := fun q => h (Int32.toInt_inj.mp (by rw [q, hK]))
def bz (y : Int32) : Option Unit := if y = 0 ∨ y = 1 then some () else none
theorem bz_some {y : Int32} {β : Type} {k : Unit → Option β} {z : β} (h : (bz y).bind k = some z) : (y = 0 ∨ y = 1) ∧ k () = some z := by
  unfold bz at h
  by_cases c : y = 0 ∨ y = 1
  · rw [if_pos c] at h; exact ⟨c, h⟩
  · rw [if_neg c] at h; cases h
