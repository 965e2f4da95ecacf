/-! ===== END ===== -/
/-! what the printed row asks of the tables stays -/
theorem aoa_spec {t : FieldType} {A : Array Value} {s : State} (h : (Cond.arrayOver (.array t)).before A s = true) : ∃ comp c k, s.vm.findClass (FieldType.array t).toString = some comp ∧ (s.vm.classes.findIdx? fun x => match x.kind with | .array component _ => component == comp | _ => false) = some c ∧ s.vm.classes[c]? = some k ∧ k.kind = .array comp (.array t) ∧ s.vm.findClass ("[" ++ (FieldType.array t).toString) = some c := by
  simp only [Cond.before, Cond.holds, Cond.value, beq_iff_eq] at h
  cases hc : s.vm.findClass (FieldType.array t).toString with
  | none => simp [hc] at h
  | some comp =>
    simp only [hc, Option.bind_some, Option.bind_eq_some_iff, Option.map_eq_some_iff] at h
    obtain ⟨c, hi, k, hk, hb⟩ := h
    obtain ⟨hlt, hp, -⟩ := Array.findIdx?_eq_some_iff_getElem.mp hi
    have hkk : s.vm.classes[c] = k := (Array.getElem?_eq_some_iff.mp hk).2
    rw [hkk] at hp
    cases hkind : k.kind with
    | array component ty =>
      rw [hkind] at hb hp
      simp at hb hp
      exact ⟨comp, c, k, rfl, hi, hk, by rw [hkind, hp, hb.1], hb.2⟩
    | _ => rw [hkind] at hb; simp at hb
theorem aoa_moved {t : FieldType} {u U : State} (hvm : u.vm.Alike U.vm) (h : va_AOA t u) : va_AOA t U := by
  obtain ⟨comp, c, k, h1, h2, h3, h4, h5⟩ := aoa_spec h
  obtain ⟨k', hk', he⟩ := hvm.2.2 _ _ h3
  have hb : U.vm.bare = u.vm.bare := by first | exact hvm.bare_eq | exact hvm.bare_eq.symm
  have hi : (U.vm.classes.findIdx? fun (x : Class) => match x.kind with | .array component _ => component == comp | _ => false) = some c :=
    (va_idx_bare U.vm comp).symm.trans (by rw [hb]; exact (va_idx_bare u.vm comp).trans h2)
  have hkind : k'.kind = .array comp (.array t) := by rw [he]; exact h4
  have f1 : U.vm.findClass (FieldType.array t).toString = some comp := by rw [hvm.findClass]; exact h1
  have f2 : U.vm.findClass ("[" ++ (FieldType.array t).toString) = some c := by rw [hvm.findClass]; exact h5
  unfold va_AOA Cond.before Cond.holds
  simp only [Cond.value]
  rw [f1, Option.bind_some]
  refine (congrArg (fun o : Option Nat => (o.bind (fun c => (U.vm.classes[c]?).map fun (k : Class) => match k.kind with | .array _ ty => decide (ty = FieldType.array t) && decide (U.vm.findClass ("[" ++ (FieldType.array t).toString) = some c) | _ => false) == some true)) hi).trans ?_
  simp [hk', hkind, f2]
def KY (D : va_G) (cy : Nat → ClassId) (U : State) : Prop := KX D cy U ∧ va_AO "NoonWells$Field" U ∧ va_AOA .int U
theorem KY.same {D : va_G} {cy : Nat → ClassId} {U : State} (h : KY D cy U) (g : JFrame) (mk : MethodId) (a : Array Value) : KY D cy (U.calling g mk a) := ⟨h.1.same g mk a, va_AO.moved (u := U) (U := U.calling g mk a) (Vm.Alike.refl U.vm) h.2.1, aoa_moved (u := U) (U := U.calling g mk a) (Vm.Alike.refl U.vm) h.2.2⟩
theorem KY.warm {D : va_G} {cy : Nat → ClassId} {s U : State} (hW : s.WarmedH U.vm) (h : KY D cy s) : KY D cy U := ⟨h.1.warm hW, h.2.1.moved hW.alike, aoa_moved hW.alike h.2.2⟩
def RC (fr mc ms lc : Nat) : Room := { frames := fr, cells := mc, slots := ms, locals := lc }
def PreC (D : va_G) (cy : Nat → ClassId) (h0 : Nat) (e0 : va_E) (sz : Nat) (U : State) : Prop := U.heap.size = sz ∧ va_P D vwCl [(h0, e0)] U.heap ∧ KY D cy U ∧ va_D (fun _ => True) [(h0, e0)]
/-- a constructor: out of the bare object, the whole cluster, at addresses that the caller learns -/
def ConC {S : Type} (l : Launch) (y : MethodName) (ws : List Cond) (fr mc ms lc : Nat) (D : va_G) (cy : Nat → ClassId) (h0 : Nat) (e0 : va_E) (wd : S → va_W) (post : S → Prop) : Prop :=
  ∀ sz : Nat, Met l y ws (RC fr mc ms lc) (va_Pc [.ref h0] (PreC D cy h0 e0 sz)) (va_Qv post (fun u t => va_P D vwCl (wd u) t.heap ∧ va_D (va_A [(h0, e0)] sz) (wd u)) (va_A [(h0, e0)] sz)) mc ms (va_A [(h0, e0)] sz)
theorem PreC.blind {D : va_G} {cy : Nat → ClassId} {h0 : Nat} {e0 : va_E} {sz : Nat} {av : List Value} : FrameBlind (va_Pc av (PreC D cy h0 e0 sz)) := fun a _ g mk q => by
  obtain ⟨q0, q1, qP, qK, qD⟩ := q
  exact ⟨q0, q1, qP, qK.same g mk a, qD⟩
set_option maxHeartbeats 4000000 in
theorem bodyC {S : Type} {l : Launch} {y : MethodName} {ws ws' : List Cond} {fr mc ms lc : Nat} {D : va_G} {cy : Nat → ClassId} {h0 : Nat} {e0 : va_E} {wd : S → va_W} {post : S → Prop} {cc : ByteArray} {maxL : Nat}
    (hy : plainName y.cls = true) (hw : ws = Cond.code y cc maxL none :: ws') (hlen : (lg_sl [Value.ref h0]).length ≤ maxL)
    (body : ∀ (p : Program) (e : Env) (s : State) (m : MethodId) (args : Array Value) (below : List Frame) (meth : Method) (c : Code) (A : Nat → Prop) (Q : State → Prop), p.tables.exec = Jvm.exec → c.code = cc → c.maxLocals = maxL → (∀ w ∈ ws, w.before args s = true) → s.vm.findClass y.cls = some m.cls → meth.name = y.name → KY D cy s → va_P D vwCl [(h0, e0)] s.heap → va_D A [(h0, e0)] → (∀ q : Nat, s.heap.size ≤ q → A q) → va_S A s.heap s.heap [] →
      (∀ (H : Heap) (locs : List Loc) (pc : Nat) (ls : Array Slot) (u : S), post u → va_P D vwCl (wd u) H → va_D A (wd u) → va_S A s.heap H locs → decode cc pc = .ok (.return_, 1) → W p l e (RC fr mc ms lc) s m args below meth c H locs mc ms Q (F0 m pc ls [])) →
      ∀ ls0 : Array Slot, lv_has ls0 maxL (lv_args 0 [Value.ref h0]) → W p l e (RC fr mc ms lc) s m args below meth c s.heap [] 0 0 Q (F0 m 0 ls0 [])) : ConC l y ws fr mc ms lc D cy h0 e0 wd post := by
  intro sz
  refine Met.ofW (cc := cc) (maxL := maxL) (ret := none) hy hw ?_
  intro p e s m args below meth c s₁ B hml hv
  obtain ⟨rfl, hsz, hP, hK, hD0⟩ := hv
  have hlocks := B.notSynchronized
  subst hsz
  have hD := hD0.self (sz := s.heap.size)
  rw [lg_entry_eq]
  refine body p e s m _ below meth c (va_A [(h0, e0)] s.heap.size) _ B.exec B.bytes hml (atoms_spec (ws := ws) B.pre) (findClass_of_methodNamed B.named) (name_of_methodNamed B.named B.method).1 hK hP hD (fun q h => Or.inr h) va_S.rf ?_ _ (lv_entry _ hlen)
  intro H locs pc ls u hu hP1 hD1 hS hdg
  exact W.vret B.exec B.bytes B.returns (fun t ht hW => ⟨⟨u, rfl, hu, by rw [ht]; exact hP1, hD1⟩, hS.F ht⟩) hS.2.2 hdg
section GK
variable {p : Program} {l : Launch} {e : Env} {R : Room} {s : State} {m : MethodId} {args : Array Value} {below : List Frame} {meth : Method} {c : Code} {H : Heap} {locs : List Loc} {cells slots : Nat} {Q : State → Prop}
variable {cc : ByteArray} {pc : Nat} {ls : Array Slot} {rest st0 : List Value} {D : va_G} {cy : Nat → ClassId} {A : Nat → Prop} {a : Nat} {ws : va_W} {H0 : Heap}
set_option maxHeartbeats 4000000 in
/-- a constructor is called -/
theorem gc_C {S : Type} (d0 : S) {wd w' : S → va_W} {post : S → Prop} {y : MethodName} {bytes : ByteArray} {maxL nL index fr mc ms lc b n : Nat} {wsC ws1 Ts : List Cond} {own : String} {e0 : va_E} (hx : p.tables.exec = Jvm.exec) (hb : c.code = cc) (hml : c.maxLocals = nL) (hown : s.vm.findClass own = some m.cls) (hts : ∀ w ∈ Ts, w.before args s = true) (hK : KY D cy s) (hP : va_P D vwCl ws H) (hD : va_D A ws) (hS : va_S A H0 H locs) (hA : ∀ q : Nat, H0.size ≤ q → A q) (hsz : ls.size = nL) (hcs : cells + mc ≤ R.cells ∧ slots + ms ≤ R.slots)
    (hM : ConC l y wsC fr mc ms lc D cy b e0 wd post) (hG : GoodIn Ts wsC) (hini : (Cond.initialized y.cls).before args s = true) (hlk : (Cond.methodLink own index y).before args s = true) (hin : (Cond.instanceMethod y).before args s = true) (hnm : y.name = "<init>") (hw : wsC = Cond.code y bytes maxL none :: ws1) (hd : y.cls ≠ "java/lang/invoke/MethodHandle" ∧ y.cls ≠ "java/lang/invoke/VarHandle" ∧ (parseMethodDescriptor y.desc).map (fun d => d.parameters.length) = some 0) (hR : fr + 1 ≤ R.frames ∧ 8 + (maxL + 11) + lc ≤ R.locals)
    (hJ : ∀ u : S, Jn D A ws [(b, e0)] (wd u) (w' u)) (hst : st0 = .ref b :: rest) (hW : (rest.map fun v => v.category).sum ≤ 8) (hdg : decode cc pc = .ok (.invokespecial index, 3))
    (kk : ∀ (u : S) (H1 : Heap) (locs1 : List Loc), post u → va_P D vwCl (w' u) H1 → va_D A (w' u) → va_S A H0 H1 locs1 → W p l e R s m args below meth c H1 locs1 (cells + mc) (slots + ms) Q (F0 m (pc + 3) ls rest)) : W p l e R s m args below meth c H locs cells slots Q (F0 m pc ls st0) := by
  obtain ⟨⟨hPc, hDc, hFs⟩, -⟩ := hJ d0 H hP hD
  have hFc : ∀ q, va_A [(b, e0)] H.size q → A q := fun q h => h.elim (hFs q) (fun h => hA q (Nat.le_trans hS.1 h))
  refine va_callv (va_runI (As := []) (rest := rest) ⟨hx, hb, hml, hown, hts⟩ (hM H.size) (cwI 0 hts hG hw rfl rfl hini hlk hin hnm hd hR) ⟨PreC.blind, fun U hU hW => ⟨rfl, by rw [hU], by rw [hU]; exact hPc, hK.warm hW, hDc⟩⟩ rfl rfl hsz hst (lv_room hW) hdg hcs) hS (fun q _ h => hFc q h) hFc (fun u t H1 locs1 ht hvm hw hB hz1 hk1 hS1 => ?_)
  obtain ⟨hP1, hD1⟩ := hB
  rw [ht] at hP1
  obtain ⟨-, hjoin⟩ := hJ u H hP hD
  obtain ⟨a1, a2⟩ := hjoin H1 hk1 hP1 hD1 hFc
  exact kk u H1 locs1 hw a1 a2 hS1
set_option maxHeartbeats 4000000 in
/-- a constructor of a nest mate is called -/
theorem gc_CN {host : String} {S : Type} (d0 : S) {wd w' : S → va_W} {post : S → Prop} {y : MethodName} {bytes : ByteArray} {maxL nL index fr mc ms lc b n : Nat} {wsC ws1 Ts : List Cond} {own : String} {e0 : va_E} (hx : p.tables.exec = Jvm.exec) (hb : c.code = cc) (hml : c.maxLocals = nL) (hown : s.vm.findClass own = some m.cls) (hts : ∀ w ∈ Ts, w.before args s = true) (hK : KY D cy s) (hP : va_P D vwCl ws H) (hD : va_D A ws) (hS : va_S A H0 H locs) (hA : ∀ q : Nat, H0.size ≤ q → A q) (hsz : ls.size = nL) (hcs : cells + mc ≤ R.cells ∧ slots + ms ≤ R.slots)
    (hM : ConC l y wsC fr mc ms lc D cy b e0 wd post) (hG : GoodIn Ts wsC) (hini : (Cond.initialized y.cls).before args s = true) (hlk : Cond.methodLinkNest own index y host ∈ NXl) (hin : (Cond.instanceMethod y).before args s = true) (hnm : y.name = "<init>") (hw : wsC = Cond.code y bytes maxL none :: ws1) (hd : y.cls ≠ "java/lang/invoke/MethodHandle" ∧ y.cls ≠ "java/lang/invoke/VarHandle" ∧ (parseMethodDescriptor y.desc).map (fun d => d.parameters.length) = some 0) (hR : fr + 1 ≤ R.frames ∧ 8 + (maxL + 11) + lc ≤ R.locals)
    (hJ : ∀ u : S, Jn D A ws [(b, e0)] (wd u) (w' u)) (hst : st0 = .ref b :: rest) (hW : (rest.map fun v => v.category).sum ≤ 8) (hdg : decode cc pc = .ok (.invokespecial index, 3))
    (kk : ∀ (u : S) (H1 : Heap) (locs1 : List Loc), post u → va_P D vwCl (w' u) H1 → va_D A (w' u) → va_S A H0 H1 locs1 → W p l e R s m args below meth c H1 locs1 (cells + mc) (slots + ms) Q (F0 m (pc + 3) ls rest)) : W p l e R s m args below meth c H locs cells slots Q (F0 m pc ls st0) := by
  obtain ⟨⟨hPc, hDc, hFs⟩, -⟩ := hJ d0 H hP hD
  have hFc : ∀ q, va_A [(b, e0)] H.size q → A q := fun q h => h.elim (hFs q) (fun h => hA q (Nat.le_trans hS.1 h))
  refine va_callv (va_runIN (host := host) (As := []) (rest := rest) ⟨hx, hb, hml, hown, hts⟩ (hM H.size) ⟨va_cnB 0 hts hG hw rfl rfl (hK.1.2 _ hlk) hini hd hR, hnm, hin⟩ ⟨PreC.blind, fun U hU hW => ⟨rfl, by rw [hU], by rw [hU]; exact hPc, hK.warm hW, hDc⟩⟩ rfl rfl hsz hst (lv_room hW) hdg hcs) hS (fun q _ h => hFc q h) hFc (fun u t H1 locs1 ht hvm hw hB hz1 hk1 hS1 => ?_)
  obtain ⟨hP1, hD1⟩ := hB
  rw [ht] at hP1
  obtain ⟨-, hjoin⟩ := hJ u H hP hD
  obtain ⟨a1, a2⟩ := hjoin H1 hk1 hP1 hD1 hFc
  exact kk u H1 locs1 hw a1 a2 hS1
theorem cls_eq {x y : ClassId} {o : Option ClassId} (h : o = some x) (h2 : o = some y) : x = y := Option.some.inj (h.symm.trans h2)
theorem vp_perm {ws2 : va_W} (h : ws.Perm ws2) (hP : va_P D vwCl ws H) : va_P D vwCl ws2 H := by
  rw [vp_all] at hP ⊢
  exact fun q hq => hP q (h.mem_iff.mpr hq)
theorem vd_perm {ws2 : va_W} (h : ws.Perm ws2) (hD : va_D A ws) : va_D A ws2 := by
  rw [vd_all] at hD ⊢
  exact ⟨(List.Perm.nodup_iff (h.map _)).mp hD.1, fun q hq => hD.2 q (h.mem_iff.mpr hq)⟩
set_option maxHeartbeats 4000000 in
/-- new int[N][K] -/
theorem g_mna {n k : Int32} {N' K' : Nat} {own : String} {index : Nat} (hexec : p.tables.exec = Jvm.exec) (hb : c.code = cc) (hown : s.vm.findClass own = some m.cls) (hclink : (Cond.classLink own index "[[I").before args s = true) (harr : (Cond.arrayClass .int).before args s = true) (hK : KY D cy s) (hP : va_P D vwCl ws H) (hD : va_D A ws) (hS : va_S A H0 H locs) (hA : ∀ q, H0.size ≤ q → A q) (hn : ¬ n < 0) (hk : ¬ k < 0) (hN : n.toNatClampNeg = N') (hM : k.toNatClampNeg = K') (hb1 : N' * 4 ≤ 536870912) (hb2 : K' * 4 ≤ 536870912) (hcells : cells + (1 + N') ≤ R.cells) (hslots : slots + (N' + N' * K') ≤ R.slots) (hdg : decode cc pc = .ok (.multianewarray index 2, 4))
    (kk : ∀ (q : Nat) (r : Nat → Nat) (H1 : Heap), va_P D vwCl (ws ++ RW N' K' cy q r (fun _ _ => 0)) H1 → va_D A (ws ++ RW N' K' cy q r (fun _ _ => 0)) → va_S A H0 H1 locs → W p l e R s m args below meth c H1 locs (cells + 1 + N') (slots + N' + N' * K') Q (F0 m (pc + 4) ls (.ref q :: rest))) : W p l e R s m args below meth c H locs cells slots Q (F0 m pc ls (.int k :: .int n :: rest)) := by
  have hnil : ws ++ va_pl [] (fun _ => (.inr (0, []) : va_E)) = ws := List.append_nil ws
  refine va_mna (X := ws) (L := []) (f := fun _ => .inr (0, [])) (ty := .int) (z := (K', .inl (fun _ => 0))) (cy := cy 0) hexec hb hown hclink hK.2.2 harr (hK.1.1.2 0 _ rfl).2 hK.1.1 (by rw [hnil]; exact hP) (by rw [hnil]; exact hD) hS hA hn hk hN hM hb1 hb2 (by omega) rfl rfl hcells hslots (fun c => by rw [vp_cell_i, ← arrV_new]; rfl) hdg (fun q r cA H1 hr hrL hK1 hP1 hD1 hS1 => ?_)
  have hcA : cA = cy 1 := cls_eq (hK1.2 4 (cA, .array .int) rfl).2 (hK.1.1.2 1 _ rfl).2
  subst hcA
  have e : (ws ++ [(q, (.inl (cy 1, N', .inr (.inr (.inr (.inr (fun i => if i < N' then some (r i) else none))))) : va_E))]) ++ va_pl ([] ++ (List.range N').map r) (vr_up (fun _ => (.inr (0, []) : va_E)) ((List.range N').map r) (.inl (cy 0, K', .inl (fun _ => 0)))) = ws ++ RW N' K' cy q r (fun _ _ => 0) := by
    rw [← vr_rows (fun a _ h => by cases h)]
    unfold RW
    rw [List.append_assoc, List.map_map]
    rfl
  rw [e] at hP1 hD1
  exact kk q r H1 hP1 hD1 hS1
end GK
