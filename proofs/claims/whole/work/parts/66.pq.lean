/-! ===== texts: numbers ===== -/
def TR (len p : Nat) (V Vm : FV) : Prop := (p ≤ len ∧ len ≤ 60) ∧ V 0 0 = nI len ∧ Vm 0 2 = nI len ∧ V 0 1 = nI p ∧ Vm 0 3 = nI p ∧ (∀ i, i < len → V 1 i = Vm 4 i)
def TQ (i : Nat) (V Vm : FV) : Prop := ∀ j, j < i → V 2 j = Vm 5 j
def Fc (V V' : FV) : Prop := V' 1 = V 1 ∧ ∀ j, j ≠ 1 → V' 0 j = V 0 j
def Fm (V V' : FV) : Prop := (∀ a, a = 1 ∨ a = 2 ∨ a = 3 ∨ a = 4 → V' a = V a) ∧ ∀ j, j ≠ 3 → V' 0 j = V 0 j
theorem Fc.rf {V : FV} : Fc V V := ⟨rfl, fun _ _ => rfl⟩
theorem Fm.rf {V : FV} : Fm V V := ⟨fun _ _ => rfl, fun _ _ => rfl⟩
theorem Fc.tr {A B C : FV} (h1 : Fc A B) (h2 : Fc B C) : Fc A C := ⟨h2.1.trans h1.1, fun j hj => (h2.2 j hj).trans (h1.2 j hj)⟩
theorem Fm.tr {A B C : FV} (h1 : Fm A B) (h2 : Fm B C) : Fm A C := ⟨fun a ha => (h2.1 a ha).trans (h1.1 a ha), fun j hj => (h2.2 j hj).trans (h1.2 j hj)⟩
theorem st_cell {V : FV} {i j a : Nat} {x : Int32} (h : a ≠ i) : st V i j x a = V a := by
  funext b
  exact st_ne (Or.inl h)
theorem Fc.st2 {V : FV} {j : Nat} {x : Int32} : Fc V (st V 2 j x) := ⟨st_cell (by omega), fun _ _ => st_ne (by omega)⟩
theorem Fc.st1 {V : FV} {x : Int32} : Fc V (st V 0 1 x) := ⟨st_cell (by omega), fun _ _ => st_ne (by omega)⟩
theorem Fm.st5 {V : FV} {j : Nat} {x : Int32} : Fm V (st V 5 j x) := ⟨fun _ _ => st_cell (by omega), fun _ _ => st_ne (by omega)⟩
theorem Fm.st3 {V : FV} {x : Int32} : Fm V (st V 0 3 x) := ⟨fun _ _ => st_cell (by omega), fun _ _ => st_ne (by omega)⟩
theorem TR.adv {len p : Nat} {V Vm V' Vm' : FV} (h : TR len p V Vm) (hp : p < len) (hc : Fc V V') (hm : Fm Vm Vm') (e1 : V' 0 1 = nI (p + 1)) (e3 : Vm' 0 3 = nI (p + 1)) : TR len (p + 1) V' Vm' := by
  obtain ⟨hb, h0, h2, -, -, ht⟩ := h
  refine ⟨by omega, by rw [hc.2 0 (by omega)]; exact h0, by rw [hm.2 2 (by omega)]; exact h2, e1, e3, ?_⟩
  rw [hc.1, hm.1 4 (by omega)]
  exact ht
theorem TR.stay {len p : Nat} {V Vm V' Vm' : FV} (h : TR len p V Vm) (hc : Fc V V') (hm : Fm Vm Vm') (e1 : V' 0 1 = V 0 1) (e3 : Vm' 0 3 = Vm 0 3) : TR len p V' Vm' := by
  obtain ⟨hb, h0, h2, h1, h3, ht⟩ := h
  refine ⟨hb, by rw [hc.2 0 (by omega)]; exact h0, by rw [hm.2 2 (by omega)]; exact h2, by rw [e1]; exact h1, by rw [e3]; exact h3, ?_⟩
  rw [hc.1, hm.1 4 (by omega)]
  exact ht
theorem here_lt {len p : Nat} {V Vm : FV} (h : TR len p V Vm) (hp : p < len) : f_X4_here Vm = some (V 1 p) := by
  obtain ⟨hb, h0, h2, h1, h3, ht⟩ := h
  unfold f_X4_here
  rw [h2, h3, if_neg (nI_ge hp (by omega)), rd_nI (by omega) (by omega), ob_s, ht p hp]
theorem here_ge {len p : Nat} {V Vm : FV} (h : TR len p V Vm) (hp : ¬ p < len) : f_X4_here Vm = some 0 := by
  obtain ⟨hb, h0, h2, h1, h3, ht⟩ := h
  unfold f_X4_here
  rw [h2, h3, if_pos (nI_le (by omega) (by omega))]
theorem dig_case (x : Int32) : f_X4_in x 48 57 = some 0 ∨ f_X4_in x 48 57 = some 1 := by
  by_cases h1 : x < 48
  · exact Or.inl (in_n (Or.inl h1))
  · by_cases h2 : 57 < x
    · exact Or.inl (in_n (Or.inr h2))
    · exact Or.inr (in_y h1 h2)
def cb (c : Nat) : Int32 := if c = 0 then 0 else 1
theorem stopC {V : FV} {i c : Nat} {y : Int32} (hi : i < 3) (hc : c ≤ 3) : ((wr 3 V 2 (nI i) y).bind fun V2 => (if nI c ≤ 0 then some ((0 : Int32), V2) else some (1, V2))) = some (cb c, st V 2 i y) := by
  rw [wr_nI hi (by omega), ob_s]
  unfold cb
  by_cases h : c = 0
  · subst h
    rfl
  · rw [if_neg h, if_neg]
    intro e
    rw [i_le, nI_toInt (by omega), i_0] at e
    omega
theorem num_eq (y c : Int32) : y * 10 + (c - 48) = 10 * y + c - 48 := by
  rw [Int32.mul_comm y 10, Int32.sub_eq_add_neg, Int32.sub_eq_add_neg, ← Int32.add_assoc]
noncomputable def TL (k2 : Int32 → Int32 → FV → Option (Int32 × FV)) (y1 y2 y3 : Int32) (V : FV) : Option (Int32 × FV) := (if y3 = 0 then some (0, V) else ((f_X4_here V).bind fun x5 => (if y2 = (y1 - 1) then (if x5 = 59 then (lt1 (st V 0 3 ((V 0 3) + 1)) fun V10 => (k2 y1 (y2 + 1) V10)) else some (0, V)) else (if x5 = 44 then (lt1 (st V 0 3 ((V 0 3) + 1)) fun V8 => (k2 y1 (y2 + 1) V8)) else some (0, V)))))
theorem num_sim {k2 : Int32 → Int32 → FV → Option (Int32 × FV)} {len i : Nat} {n : Int32} (hi : i < 3) : ∀ (f c p m m' : Nat) (y : Int32) (V Vm : FV), c + f = 3 → TR len p V Vm → TQ i V Vm → Vm 5 i = y → ∃ (c' p' : Nat) (V' Vm' : FV), f_X2_readNumber_L4 (m + f + 1) (nI i) y (nI c) V = some (cb c', V') ∧ f_X4_reads_L16 k2 (m' + f + 1) n (nI i) (nI c) Vm = TL k2 n (nI i) (nI c') Vm' ∧ TR len p' V' Vm' ∧ TQ (i + 1) V' Vm' ∧ Fc V V' ∧ Fm Vm Vm' ∧ p ≤ p' ∧ c' ≤ 3 := by
  have fin : ∀ (c p : Nat) (y : Int32) (V Vm : FV), TR len p V Vm → TQ i V Vm → Vm 5 i = y → TR len p (st V 2 i y) Vm ∧ TQ (i + 1) (st V 2 i y) Vm := by
    intro c p y V Vm hR hQ hy
    refine ⟨hR.stay Fc.st2 Fm.rf (st_ne (by omega)) rfl, fun j hj => ?_⟩
    by_cases cj : j = i
    · subst cj; rw [st_eq, hy]
    · rw [st_ne (by omega)]; exact hQ j (by omega)
  intro f
  induction f with
  | zero =>
    intro c p m m' y V Vm hc hR hQ hy
    obtain ⟨g1, g2⟩ := fin c p y V Vm hR hQ hy
    have h3 : (3 : Int32) ≤ nI c := nI_le (a := 3) (by omega) (by omega)
    refine ⟨c, p, st V 2 i y, Vm, ?_, ?_, g1, g2, Fc.st2, Fm.rf, Nat.le_refl p, by omega⟩
    · show (if 3 ≤ nI c then ((wr 3 V 2 (nI i) y).bind fun V2 => (if nI c ≤ 0 then some ((0 : Int32), V2) else some (1, V2))) else _) = _
      rw [if_pos h3, stopC hi (by omega)]
    · show (if 3 ≤ nI c then TL k2 n (nI i) (nI c) Vm else _) = _
      rw [if_pos h3]
  | succ f ih =>
    intro c p m m' y V Vm hc hR hQ hy
    have hR' := hR
    obtain ⟨hb, h0, h2, h1, h5, ht⟩ := hR'
    have h3 : ¬ (3 : Int32) ≤ nI c := nI_ge (b := 3) (by omega) (by omega)
    obtain ⟨g1, g2⟩ := fin c p y V Vm hR hQ hy
    show ∃ (c' p' : Nat) (V' Vm' : FV), (if 3 ≤ nI c then _ else (if (V 0 0) ≤ (V 0 1) then ((wr 3 V 2 (nI i) y).bind fun V5 => (if nI c ≤ 0 then some ((0 : Int32), V5) else some (1, V5))) else ((rd 60 (V 1) (V 0 1)).bind fun x7 => ((f_X4_in x7 48 57).bind fun x8 => (if x8 = 0 then ((wr 3 V 2 (nI i) y).bind fun V10 => (if nI c ≤ 0 then some ((0 : Int32), V10) else some (1, V10))) else ((rd 60 (V 1) (V 0 1)).bind fun x12 => (lt1 (st V 0 1 ((V 0 1) + 1)) fun V13 => (f_X2_readNumber_L4 (m + f + 1) (nI i) ((y * 10) + (x12 - 48)) (nI c + 1) V13)))))))) = some (cb c', V') ∧
      (if 3 ≤ nI c then _ else ((f_X4_here Vm).bind fun x11 => ((f_X4_in x11 48 57).bind fun x12 => (if x12 = 0 then TL k2 n (nI i) (nI c) Vm else ((rd 3 (Vm 5) (nI i)).bind fun x21 => ((f_X4_here Vm).bind fun x22 => ((wr 3 Vm 5 (nI i) (((10 * x21) + x22) - 48)).bind fun V23 => (lt1 (st V23 0 3 ((V23 0 3) + 1)) fun V24 => (f_X4_reads_L16 k2 (m' + f + 1) n (nI i) (nI c + 1) V24))))))))) = TL k2 n (nI i) (nI c') Vm' ∧ _
    rw [if_neg h3, if_neg h3, h0, h1]
    by_cases hp : p < len
    · rw [if_neg (nI_ge hp (by omega)), rd_nI (by omega) (by omega), ob_s, here_lt hR hp, ob_s, ob_s]
      rcases dig_case (V 1 p) with hd | hd
      · rw [hd, ob_s, ob_s, if_pos rfl, if_pos rfl, stopC hi (by omega)]
        exact ⟨c, p, st V 2 i y, Vm, rfl, rfl, g1, g2, Fc.st2, Fm.rf, Nat.le_refl p, by omega⟩
      · rw [hd, ob_s, ob_s, if_neg (show ¬ (1 : Int32) = 0 by decide), if_neg (show ¬ (1 : Int32) = 0 by decide), lt1_mk, rd_nI (by omega) (by omega), ob_s, ob_s, wr_nI (by omega) (by omega), ob_s, lt1_mk, hy, st_ne (i := 5) (a := 0) (by omega), h5, nI_1, nI_1, num_eq]
        have fc : Fc V (st V 0 1 (nI (p + 1))) := Fc.st1
        have fm : Fm Vm (st (st Vm 5 i (10 * y + V 1 p - 48)) 0 3 (nI (p + 1))) := Fm.st5.tr Fm.st3
        obtain ⟨c', p', V', Vm', e1, e2, e3, e4, e5, e6, e7, e8⟩ := ih (c + 1) (p + 1) m m' (10 * y + V 1 p - 48) (st V 0 1 (nI (p + 1))) (st (st Vm 5 i (10 * y + V 1 p - 48)) 0 3 (nI (p + 1))) (by omega) (hR.adv hp fc fm st_eq st_eq)
          (fun j hj => by rw [st_ne (by omega), st_ne (by omega), st_ne (by omega)]; exact hQ j hj) (by rw [st_ne (by omega)]; exact st_eq)
        exact ⟨c', p', V', Vm', e1, e2, e3, e4, fc.tr e5, fm.tr e6, by omega, e8⟩
    · rw [if_pos (nI_le (by omega) (by omega)), stopC hi (by omega), here_ge hR hp, ob_s, show f_X4_in 0 48 57 = some 0 from in_n (Or.inl (by decide)), ob_s, if_pos rfl]
      exact ⟨c, p, st V 2 i y, Vm, rfl, rfl, g1, g2, Fc.st2, Fm.rf, Nat.le_refl p, by omega⟩
theorem reads_sim {len n : Nat} {p1 : Int32} (hn : 1 ≤ n) (hn3 : n ≤ 3) : ∀ (t i p m m' : Nat) (V Vm : FV), i + t = n → TR len p V Vm → TQ i V Vm → ∃ (b : Int32) (p' : Nat) (V' Vm' : FV), f_X2_readOrder_L17 (m + t + 1) p1 (nI n) (nI i) V = some (b, V') ∧ f_X4_reads_L2 (m' + t + 1) (nI n) (nI i) Vm = some (b, Vm') ∧ (b = 0 ∨ (b = 1 ∧ TQ n V' Vm')) ∧ TR len p' V' Vm' ∧ Fc V V' ∧ Fm Vm Vm' ∧ p ≤ p' := by
  intro t
  induction t with
  | zero =>
    intro i p m m' V Vm h hR hQ
    have hi : i = n := by omega
    subst hi
    refine ⟨1, p, V, Vm, ?_, ?_, Or.inr ⟨rfl, hQ⟩, hR, Fc.rf, Fm.rf, Nat.le_refl p⟩
    · show (if nI i ≤ nI i then (if nI i ≤ 0 then some ((0 : Int32), V) else some (1, V)) else _) = _
      rw [if_pos (nI_le (Nat.le_refl i) (by omega)), if_neg]
      intro e
      rw [i_le, nI_toInt (by omega), i_0] at e
      omega
    · show (if nI i ≤ nI i then _ else _) = _
      rw [if_pos (nI_le (Nat.le_refl i) (by omega))]
  | succ t ih =>
    intro i p m m' V Vm h hR hQ
    have hi3 : i < 3 := by omega
    have key : ∀ sep : Int32, (if nI i = nI n - 1 then sep = 59 else sep = 44) → ∃ (b : Int32) (p' : Nat) (V' Vm' : FV), (b2 (f_X2_readNumber V (nI i)) fun x14 V14 => (if x14 = 0 then some ((0 : Int32), V14) else (if (V14 0 0) ≤ (V14 0 1) then some (0, V14) else ((rd 60 (V14 1) (V14 0 1)).bind fun x17 => (if x17 = sep then (lt1 (st V14 0 1 ((V14 0 1) + 1)) fun V19 => (f_X2_readOrder_L17 (m + t + 1) p1 (nI n) (nI i + 1) V19)) else some (0, V14)))))) = some (b, V') ∧ f_X4_reads_L2 (m' + t + 1 + 1) (nI n) (nI i) Vm = some (b, Vm') ∧ (b = 0 ∨ (b = 1 ∧ TQ n V' Vm')) ∧ TR len p' V' Vm' ∧ Fc V V' ∧ Fm Vm Vm' ∧ p ≤ p' := by
      intro sep hsep
      obtain ⟨mm, hmm⟩ := FUEL_ge (k := 4) (by omega)
      obtain ⟨c, p', V', Vm', e1, e2, e3, e4, e5, e6, e7, e8⟩ := num_sim (k2 := f_X4_reads_L2 (m' + t + 1)) (n := nI n) (len := len) hi3 3 0 p mm mm 0 V (st Vm 5 i 0) (by omega) (hR.stay Fc.rf Fm.st5 rfl (st_ne (by omega))) (fun j hj => by rw [st_ne (by omega)]; exact hQ j hj) st_eq
      have e1' : f_X2_readNumber V (nI i) = some (cb c, V') := by
        unfold f_X2_readNumber
        rw [hmm]
        exact e1
      have e2' : f_X4_reads_L2 (m' + t + 1 + 1) (nI n) (nI i) Vm = TL (f_X4_reads_L2 (m' + t + 1)) (nI n) (nI i) (nI c) Vm' := by
        show (if nI n ≤ nI i then _ else ((wr 3 Vm 5 (nI i) 0).bind fun V2 => (f_X4_reads_L16 (f_X4_reads_L2 (m' + t + 1)) FUEL (nI n) (nI i) 0 V2))) = _
        rw [if_neg (nI_ge (by omega) (by omega)), wr_nI (by omega) (by omega), ob_s, hmm]
        exact e2
      rw [e1', e2', b2_mk]
      unfold TL cb
      by_cases hc : c = 0
      · subst hc
        rw [if_pos rfl, if_pos rfl, if_pos (show nI 0 = 0 from rfl)]
        exact ⟨0, p', V', Vm', rfl, rfl, Or.inl rfl, e3, e5, Fm.st5.tr e6, e7⟩
      · have hcn : ¬ nI c = 0 := fun e => hc ((nI_eq (b := 0) (by omega) (by omega)).mp e)
        rw [if_neg hc, if_neg (show ¬ (1 : Int32) = 0 by decide), if_neg hcn]
        have e3' := e3
        obtain ⟨hb, h0, h2, h1, h5, ht⟩ := e3'
        rw [h0, h1]
        by_cases hp : p' < len
        · rw [if_neg (nI_ge hp (by omega)), rd_nI (by omega) (by omega), ob_s, here_lt e3 hp, ob_s, h5, nI_1, nI_1, lt1_mk, lt1_mk]
          have fc : Fc V' (st V' 0 1 (nI (p' + 1))) := Fc.st1
          have fm : Fm Vm' (st Vm' 0 3 (nI (p' + 1))) := Fm.st3
          have hmod : (if nI i = nI n - 1 then (if V' 1 p' = 59 then f_X4_reads_L2 (m' + t + 1) (nI n) (nI (i + 1)) (st Vm' 0 3 (nI (p' + 1))) else some (0, Vm')) else (if V' 1 p' = 44 then f_X4_reads_L2 (m' + t + 1) (nI n) (nI (i + 1)) (st Vm' 0 3 (nI (p' + 1))) else some (0, Vm'))) = (if V' 1 p' = sep then f_X4_reads_L2 (m' + t + 1) (nI n) (nI (i + 1)) (st Vm' 0 3 (nI (p' + 1))) else some (0, Vm')) := by
            by_cases cs : nI i = nI n - 1
            · rw [if_pos cs] at hsep ⊢
              rw [hsep]
            · rw [if_neg cs] at hsep ⊢
              rw [hsep]
          rw [hmod]
          by_cases cx : V' 1 p' = sep
          · rw [if_pos cx, if_pos cx]
            obtain ⟨b, p2, V2, Vm2, f1, f2, f3, f4, f5, f6, f7⟩ := ih (i + 1) (p' + 1) m m' _ _ (by omega) (e3.adv hp fc fm st_eq st_eq) (fun j hj => by rw [st_ne (by omega), st_ne (by omega)]; exact e4 j hj)
            exact ⟨b, p2, V2, Vm2, f1, f2, f3, f4, (e5.tr fc).tr f5, ((Fm.st5.tr e6).tr fm).tr f6, by omega⟩
          · rw [if_neg cx, if_neg cx]
            exact ⟨0, p', V', Vm', rfl, rfl, Or.inl rfl, e3, e5, Fm.st5.tr e6, e7⟩
        · rw [if_pos (nI_le (by omega) (by omega)), here_ge e3 hp, ob_s, if_neg (show ¬ (0 : Int32) = 59 by decide), if_neg (show ¬ (0 : Int32) = 44 by decide)]
          exact ⟨0, p', V', Vm', rfl, by by_cases cs : nI i = nI n - 1 <;> simp [cs], Or.inl rfl, e3, e5, Fm.st5.tr e6, e7⟩
    have hstep : ∀ sep : Int32, True := fun _ => trivial
    show ∃ (b : Int32) (p' : Nat) (V' Vm' : FV), (if nI n ≤ nI i then _ else (if 3 ≤ nI i then _ else (if nI i = (nI n - 1) then (b2 (f_X2_readNumber V (nI i)) fun x14 V14 => (if x14 = 0 then some (0, V14) else (if (V14 0 0) ≤ (V14 0 1) then some (0, V14) else ((rd 60 (V14 1) (V14 0 1)).bind fun x17 => (if x17 = 59 then (lt1 (st V14 0 1 ((V14 0 1) + 1)) fun V19 => (f_X2_readOrder_L17 (m + t + 1) p1 (nI n) (nI i + 1) V19)) else some (0, V14)))))) else (b2 (f_X2_readNumber V (nI i)) fun x8 V8 => (if x8 = 0 then some (0, V8) else (if (V8 0 0) ≤ (V8 0 1) then some (0, V8) else ((rd 60 (V8 1) (V8 0 1)).bind fun x11 => (if x11 = 44 then (lt1 (st V8 0 1 ((V8 0 1) + 1)) fun V13 => (f_X2_readOrder_L17 (m + t + 1) p1 (nI n) (nI i + 1) V13)) else some (0, V8))))))))) = some (b, V') ∧ _
    rw [if_neg (nI_ge (by omega) (by omega)), if_neg (show ¬ (3 : Int32) ≤ nI i from nI_ge (b := 3) (by omega) (by omega))]
    by_cases cs : nI i = nI n - 1
    · rw [if_pos cs]
      exact key 59 (by rw [if_pos cs])
    · rw [if_neg cs]
      exact key 44 (by rw [if_neg cs])
