/-! what the law of its own needs beside whole's ground: methods that answer a long, a script's cell, the switch -/
def ConL {S : Type} (l : Launch) (y : MethodName) (ws : List Cond) (fr lc : Nat) (D : va_G) (cy : Nat → ClassId) (wd : S → va_W) (av : List Value) (u0 u1 : S) (r : Int64) : Prop :=
  ∀ sz : Nat, Met l y ws (RM fr lc) (va_Pc av (PreX D cy wd u0 sz)) (va_Ql (fun (r0 : Int64) (u : S) => r0 = r ∧ u = u1) (PostX D wd u0 sz) (va_A (wd u0) sz)) 0 0 (va_A (wd u0) sz)
set_option maxHeartbeats 4000000 in
theorem bodyL {S : Type} {l : Launch} {y : MethodName} {ws ws' : List Cond} {fr lc : Nat} {D : va_G} {cy : Nat → ClassId} {wd : S → va_W} {av : List Value} {u0 u1 : S} {r : Int64} {cc : ByteArray} {maxL : Nat}
    (hy : plainName y.cls = true) (hw : ws = Cond.code y cc maxL (some .long) :: ws') (hlen : (lg_sl av).length ≤ maxL)
    (body : ∀ (p : Program) (e : Env) (s : State) (m : MethodId) (args : Array Value) (below : List Frame) (meth : Method) (c : Code) (A : Nat → Prop) (Q : State → Prop), p.tables.exec = Jvm.exec → c.code = cc → c.maxLocals = maxL → (∀ w ∈ ws, w.before args s = true) → s.vm.findClass y.cls = some m.cls → KX D cy s → va_P D vwCl (wd u0) s.heap → va_D A (wd u0) → (∀ q : Nat, s.heap.size ≤ q → A q) → va_S A s.heap s.heap [] →
      (∀ (H : Heap) (locs : List Loc) (pc : Nat) (ls : Array Slot) (v : Int64) (u : S), v = r → u = u1 → va_P D vwCl (wd u) H → va_D A (wd u) → va_S A s.heap H locs → decode cc pc = .ok (.lreturn, 1) → W p l e (RM fr lc) s m args below meth c H locs 0 0 Q (F0 m pc ls [.long v])) →
      ∀ ls0 : Array Slot, lv_has ls0 maxL (lv_args 0 av) → W p l e (RM fr lc) s m args below meth c s.heap [] 0 0 Q (F0 m 0 ls0 [])) : ConL l y ws fr lc D cy wd av u0 u1 r := by
  intro sz
  refine Met.ofW (cc := cc) (maxL := maxL) (ret := some .long) hy hw ?_
  intro p e s m args below meth c s₁ B hml hv
  obtain ⟨rfl, hsz, hP, hK, hD0⟩ := hv
  have hlocks := B.notSynchronized
  subst hsz
  have hD := hD0.self (sz := s.heap.size)
  rw [lg_entry_eq]
  refine body p e s m _ below meth c (va_A (wd u0) s.heap.size) _ B.exec B.bytes hml (atoms_spec (ws := ws) B.pre) (findClass_of_methodNamed B.named) hK hP hD (fun q h => Or.inr h) va_S.rf ?_ _ (lv_entry av hlen)
  intro H locs pc ls v u hv hu hP1 hD1 hS hdg
  exact W.lret (v := v) B.exec B.bytes B.returns (fun t ht hW => ⟨⟨v, u, rfl, ⟨hv, hu⟩, by rw [ht]; exact hP1, hD1⟩, hS.F ht⟩) hS.2.2 hdg
section GC25
variable {p : Program} {l : Launch} {e : Env} {R : Room} {s : State} {m : MethodId} {args : Array Value} {below : List Frame} {meth : Method} {c : Code} {H : Heap} {locs : List Loc} {cells slots : Nat} {Q : State → Prop}
variable {cc : ByteArray} {pc : Nat} {ls : Array Slot} {rest st0 : List Value} {D : va_G} {cy : Nat → ClassId} {A : Nat → Prop} {a : Nat} {ws w' : va_W} {H0 : Heap}
variable {S : Type} {wd : S → va_W} {u0 u1 : S} {y : MethodName} {bytes : ByteArray} {maxL nL index fr lc ci N b n q0 : Nat} {ret : Option FieldType} {wsC ws1 Ts : List Cond} {own C host : String} {T : u_T} {As : List Value} {fs : List Value}
set_option maxHeartbeats 4000000 in
theorem gc_SL {r : Int64} (hx : p.tables.exec = Jvm.exec) (hb : c.code = cc) (hml : c.maxLocals = nL) (hown : s.vm.findClass own = some m.cls) (hts : ∀ w ∈ Ts, w.before args s = true) (hK : KX D cy s) (hP : va_P D vwCl ws H) (hD : va_D A ws) (hS : va_S A H0 H locs) (hA : ∀ q : Nat, H0.size ≤ q → A q) (hsz : ls.size = nL) (hcs : cells ≤ R.cells ∧ slots ≤ R.slots)
    (hM : ConL l y wsC fr lc D cy wd As u0 u1 r) (hG : GoodIn Ts (va_wsS own index y wsC)) (hw : wsC = Cond.code y bytes maxL ret :: ws1) (hd : y.cls ≠ "java/lang/invoke/MethodHandle" ∧ y.cls ≠ "java/lang/invoke/VarHandle" ∧ (parseMethodDescriptor y.desc).map (fun d => d.parameters.length) = some n) (hn : As.length = n) (hR : fr + 1 ≤ R.frames ∧ 8 + (maxL + 11) + lc ≤ R.locals)
    (hJ : Jn D A ws (wd u0) (wd u1) w') (hst : st0 = As.reverse ++ rest) (hW : (rest.map fun v => v.category).sum ≤ 8) (hdg : decode cc pc = .ok (.invokestatic index, 3))
    (kk : ∀ (H1 : Heap) (locs1 : List Loc), va_P D vwCl w' H1 → va_D A w' → va_S A H0 H1 locs1 → W p l e R s m args below meth c H1 locs1 cells slots Q (F0 m (pc + 3) ls (.long r :: rest))) : W p l e R s m args below meth c H locs cells slots Q (F0 m pc ls st0) := by
  obtain ⟨⟨hPc, hDc, hFs⟩, hjoin⟩ := hJ H hP hD
  have hFc : ∀ q, va_A (wd u0) H.size q → A q := fun q h => h.elim (hFs q) (fun h => hA q (Nat.le_trans hS.1 h))
  refine va_calll (va_runS (As := As) (rest := rest) ⟨hx, hb, hml, hown, hts⟩ (hM H.size) (va_cwS n hts hG hw rfl rfl hd hR) ⟨PreX.blind, fun U hU hW => ⟨rfl, by rw [hU], by rw [hU]; exact hPc, hK.warm hW, hDc⟩⟩ rfl hn hsz hst (lv_room hW) hdg ⟨hcs.1, hcs.2⟩) hS (fun q _ h => hFc q h) hFc (fun r2 u t H1 locs1 ht hvm hw hB hz1 hk1 hS1 => ?_)
  obtain ⟨rfl, rfl⟩ := hw
  obtain ⟨hP1, hD1⟩ := hB
  rw [ht] at hP1
  obtain ⟨a1, a2⟩ := hjoin H1 hk1 hP1 hD1 hFc
  exact kk H1 locs1 a1 a2 hS1
/-! a cell of the script, or a number of its place -/
noncomputable def f_L_cell (L : Nat) (xs : Nat → Int32) (i : Int32) : Option Int32 := (if nI L ≤ i then some (1779033703 * (i + 1)) else rd L xs i)
def PrS25 (D : va_G) (cy : Nat → ClassId) (b L : Nat) (xs : Nat → Int32) (sz : Nat) (U : State) : Prop := PreX D cy (fun (_ : Unit) => ([] : va_W)) () sz U ∧ va_X b L xs U U.heap ∧ b < U.heap.size
def CoS25 (l : Launch) (y : MethodName) (ws' : List Cond) (D : va_G) (cy : Nat → ClassId) (b L : Nat) (xs : Nat → Int32) (av : List Value) (r : Int32) : Prop :=
  ∀ sz : Nat, Met l y ws' (RM 0 0) (va_Pc av (PrS25 D cy b L xs sz)) (va_Qi (fun (r0 : Int32) (_ : Unit) => r0 = r) (fun _ _ => True) (fun q => sz ≤ q)) 0 0 (fun q => sz ≤ q)
theorem PrS25.blind {D : va_G} {cy : Nat → ClassId} {b L : Nat} {xs : Nat → Int32} {sz : Nat} {av : List Value} : FrameBlind (va_Pc av (PrS25 D cy b L xs sz)) := fun a _ g mk q => by
  obtain ⟨q0, ⟨q1, qP, qK, qD⟩, qX, qb⟩ := q
  exact ⟨q0, ⟨q1, qP, qK.same g mk a, qD⟩, va_X.moved (Vm.Alike.refl _) qX, qb⟩
set_option maxHeartbeats 4000000 in
set_option maxRecDepth 100000 in
theorem C_L_cell (l : Launch) (D : va_G) (cy : Nat → ClassId) {L : Nat} (hL : L ≤ 260) (b : Nat) (xs : Nat → Int32) (i r : Int32) (hc : f_L_cell L xs i = some r) : CoS25 l yL_cell wsL_cell D cy b L xs [.ref b, .int i] r := by
  intro sz
  refine Met.ofW (cc := cL_cell) (maxL := 2) (ret := some .int) (by decide +kernel) rfl ?_
  intro p e s m args below meth c s₁ B hml hv
  obtain ⟨rfl, ⟨hsz, hP, hK, hD0⟩, hX, hbl⟩ := hv
  have hlocks := B.notSynchronized
  subst hsz
  rw [lg_entry_eq]
  have hx := B.exec
  have hb := B.bytes
  have hts := atoms_spec (ws := wsL_cell) B.pre
  have hown : s.vm.findClass RL = some m.cls := findClass_of_methodNamed B.named
  have hl := lv_entry ([.ref b, .int i]) (n := 2) (Nat.le_of_ble_eq_true rfl)
  generalize (lg_sl ([.ref b, .int i]) ++ List.replicate (2 - (lg_sl ([.ref b, .int i])).length) Slot.unset).toArray = ls at hl ⊢
  have hl : lv_has ls 2 [(0, .ref b), (1, .int i)] := hl
  have hS : va_S (fun q : Nat => s.heap.size ≤ q) s.heap s.heap [] := va_S.rf
  have hbA : ¬ (fun q : Nat => s.heap.size ≤ q) b := Nat.not_le.mpr hbl
  unfold f_L_cell at hc
  refine lv_iload_n hx hb dL_cell_0 rfl (lv_at hl 1 rfl) ?_
  refine lv_aload_n hx hb dL_cell_1 rfl (lv_at hl 0 rfl) ?_
  refine va_slen hx hb hX hbl hbA hS dL_cell_2 ?_
  refine lv_icmp_ge (tgt := 12) hx hb dL_cell_3 (by decide) (fun c1 => ?_) (fun c1 => ?_)
  · replace hc := ite_t (show nI L ≤ i from c1) hc
    refine lv_ldc (v := 1779033703) hx hb hown (hts (.constant RL 7 1779033703) (by decide +kernel)) dL_cell_12 ?_
    refine lv_iload_n hx hb dL_cell_14 rfl (lv_at hl 1 rfl) ?_
    refine lv_iconst (v := 1) hx hb dL_cell_15 (by decide) ?_
    refine lv_iadd hx hb dL_cell_16 ?_
    refine lv_imul hx hb dL_cell_17 ?_
    exact W.zret (v := 1779033703 * (i + 1)) hx hb B.returns rfl (fun t ht hW => ⟨⟨_, (), rfl, some_one hc, trivial⟩, hS.F ht⟩) hS.2.2 dL_cell_18
  · replace hc := ite_f (show ¬ nI L ≤ i from c1) hc
    obtain ⟨hin, hv⟩ : vp_in i L ∧ xs i.toNatClampNeg = r := by
      unfold rd at hc
      by_cases c2 : i < 0 ∨ L ≤ i.toNatClampNeg
      · rw [if_pos c2] at hc; cases hc
      · rw [if_neg c2] at hc; exact ⟨c2, some_one hc⟩
    refine lv_aload_n hx hb dL_cell_6 rfl (lv_at hl 0 rfl) ?_
    refine lv_iload_n hx hb dL_cell_7 rfl (lv_at hl 1 rfl) ?_
    refine va_sld hx hb hX hbl hbA hS hin dL_cell_8 ?_
    refine lv_goto (tgt := 18) hx hb dL_cell_9 (by decide) ?_
    exact W.zret (v := xs i.toNatClampNeg) hx hb B.returns rfl (fun t ht hW => ⟨⟨_, (), rfl, hv, trivial⟩, hS.F ht⟩) hS.2.2 dL_cell_18
set_option maxHeartbeats 4000000 in
theorem gc_cell {L : Nat} {xs : Nat → Int32} {r : Int32} (hx : p.tables.exec = Jvm.exec) (hb : c.code = cc) (hml : c.maxLocals = nL) (hown : s.vm.findClass own = some m.cls) (hts : ∀ w ∈ Ts, w.before args s = true) (hK : KX D cy s) (hX : va_X b L xs s H0) (hbl : b < H0.size) (hbA : ¬ A b) (hP : va_P D vwCl ws H) (hD : va_D A ws) (hS : va_S A H0 H locs) (hA : ∀ q : Nat, H0.size ≤ q → A q) (hsz : ls.size = nL) (hcs : cells ≤ R.cells ∧ slots ≤ R.slots)
    (hM : CoS25 l y wsC D cy b L xs As r) (hG : GoodIn Ts (va_wsS own index y wsC)) (hw : wsC = Cond.code y bytes maxL ret :: ws1) (hd : y.cls ≠ "java/lang/invoke/MethodHandle" ∧ y.cls ≠ "java/lang/invoke/VarHandle" ∧ (parseMethodDescriptor y.desc).map (fun d => d.parameters.length) = some n) (hn : As.length = n) (hR : 0 + 1 ≤ R.frames ∧ 8 + (maxL + 11) + 0 ≤ R.locals)
    (hst : st0 = As.reverse ++ rest) (hW : (rest.map fun v => v.category).sum ≤ 8) (hdg : decode cc pc = .ok (.invokestatic index, 3))
    (kk : ∀ (H1 : Heap) (locs1 : List Loc), va_P D vwCl ws H1 → va_D A ws → va_S A H0 H1 locs1 → W p l e R s m args below meth c H1 locs1 cells slots Q (F0 m (pc + 3) ls (.int r :: rest))) : W p l e R s m args below meth c H locs cells slots Q (F0 m pc ls st0) := by
  have hXH : va_X b L xs s H := va_X.kept hX (hS.2.1 b hbl hbA)
  refine va_calli (va_runS (As := As) (rest := rest) ⟨hx, hb, hml, hown, hts⟩ (hM H.size) (va_cwS n hts hG hw rfl rfl hd hR) ⟨PrS25.blind, fun U hU hW => ⟨rfl, ⟨by rw [hU], fun k q h => by simp at h, hK.warm hW, ⟨fun i j p q h => by simp at h, fun k q h => by simp at h⟩⟩, by rw [hU]; exact va_X.moved hW.alike hXH, by rw [hU]; exact Nat.lt_of_lt_of_le hbl hS.1⟩⟩ rfl hn hsz hst (lv_room hW) hdg ⟨hcs.1, hcs.2⟩) hS (fun q h1 h => absurd h1 (Nat.not_lt.mpr h)) (fun q h => hA q (Nat.le_trans hS.1 h)) (fun r2 u t H1 locs1 ht hvm hw hB hz1 hk1 hS1 => ?_)
  obtain rfl := hw
  refine kk H1 locs1 ?_ hD hS1
  intro k q h
  have hq := (hP k q h).lt
  exact (hP.kept (fun k q h => hk1 q.1 ((hP k q h).lt) (Nat.not_le.mpr ((hP k q h).lt)))) k q h
end GC25
theorem sw_ti16 {x : Int32} {k : Nat} (hk : k < 16) (h : ¬ x = nI k) : ¬ x.toInt = k := fun e => h (by
  apply Int32.toInt_inj.mp
  rw [e, nI_toInt (by omega)])
theorem sw_out16 {x : Int32} (c0 : ¬ x = 0) (c1 : ¬ x = 1) (c2 : ¬ x = 2) (c3 : ¬ x = 3) (c4 : ¬ x = 4) (c5 : ¬ x = 5) (c6 : ¬ x = 6) (c7 : ¬ x = 7) (c8 : ¬ x = 8) (c9 : ¬ x = 9) (c10 : ¬ x = 10) (c11 : ¬ x = 11) (c12 : ¬ x = 12) (c13 : ¬ x = 13) (c14 : ¬ x = 14) (c15 : ¬ x = 15) : x.toInt < 0 ∨ 15 < x.toInt := by
  have h0 := sw_ti16 (k := 0) (by decide) c0
  have h1 := sw_ti16 (k := 1) (by decide) c1
  have h2 := sw_ti16 (k := 2) (by decide) c2
  have h3 := sw_ti16 (k := 3) (by decide) c3
  have h4 := sw_ti16 (k := 4) (by decide) c4
  have h5 := sw_ti16 (k := 5) (by decide) c5
  have h6 := sw_ti16 (k := 6) (by decide) c6
  have h7 := sw_ti16 (k := 7) (by decide) c7
  have h8 := sw_ti16 (k := 8) (by decide) c8
  have h9 := sw_ti16 (k := 9) (by decide) c9
  have h10 := sw_ti16 (k := 10) (by decide) c10
  have h11 := sw_ti16 (k := 11) (by decide) c11
  have h12 := sw_ti16 (k := 12) (by decide) c12
  have h13 := sw_ti16 (k := 13) (by decide) c13
  have h14 := sw_ti16 (k := 14) (by decide) c14
  have h15 := sw_ti16 (k := 15) (by decide) c15
  omega
