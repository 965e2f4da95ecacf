/-! ===== THE PROPERTY: what is told of calls, over the row of numbers of a field ===== -/
abbrev NN : Type := Nat → Int32
def Go {α : Type} (o : Option α) (P : α → Prop) : Prop := ∃ z, o = some z ∧ P z
theorem Go.ret {α : Type} {a : α} {P : α → Prop} (h : P a) : Go (some a) P := ⟨a, rfl, h⟩
theorem Go.of {α : Type} {o : Option α} {a : α} {P : α → Prop} (h : o = some a) (hP : P a) : Go o P := ⟨a, h, hP⟩
theorem Go.bind {α β : Type} {o : Option α} {k : α → Option β} {P : α → Prop} {Q : β → Prop} (h : Go o P) (hk : ∀ a, P a → Go (k a) Q) : Go (o.bind k) Q := by
  obtain ⟨z, rfl, hz⟩ := h
  exact hk z hz
theorem Go.rd {α β : Type} {o : Option α} {a : α} {k : α → Option β} {Q : β → Prop} (h : o = some a) (hk : Go (k a) Q) : Go (o.bind k) Q := by
  subst h
  exact hk
theorem Go.b2 {α β γ : Type} {o : Option (α × β)} {k : α → β → Option γ} {P : α × β → Prop} {Q : γ → Prop} (h : Go o P) (hk : ∀ a b, P (a, b) → Go (k a b) Q) : Go (b2 o k) Q := by
  obtain ⟨z, rfl, hz⟩ := h
  exact hk z.1 z.2 hz
theorem Go.t {c : Prop} [Decidable c] {α : Type} {a b : Option α} {Q : α → Prop} (hc : c) (h : Go a Q) : Go (if c then a else b) Q := by rw [if_pos hc]; exact h
theorem Go.f {c : Prop} [Decidable c] {α : Type} {a b : Option α} {Q : α → Prop} (hc : ¬ c) (h : Go b Q) : Go (if c then a else b) Q := by rw [if_neg hc]; exact h
theorem Go.mono {α : Type} {o : Option α} {P Q : α → Prop} (h : Go o P) (hk : ∀ a, P a → Q a) : Go o Q := by
  obtain ⟨z, e, hz⟩ := h
  exact ⟨z, e, hk z hz⟩
theorem st_cell {V : FV} {i j a : Nat} {x : Int32} (h : a ≠ i) : st V i j x a = V a := by
  funext b
  exact st_ne (Or.inl h)
/-! sums over all places of a cell -/
def sv (V : FV) (c : Nat) : Nat → Int32
  | 0 => 0
  | k + 1 => sv V c k + V c k
theorem sv_congr {V V' : FV} {c : Nat} : ∀ k, (∀ j, j < k → V' c j = V c j) → sv V' c k = sv V c k := by
  intro k
  induction k with
  | zero => intro _; rfl
  | succ k ih =>
    intro h
    show sv V' c k + V' c k = sv V c k + V c k
    rw [ih (fun j hj => h j (by omega)), h k (by omega)]
theorem sv_ne {V : FV} {c i j k : Nat} {x : Int32} (h : c ≠ i) : sv (st V i j x) c k = sv V c k := sv_congr k (fun _ _ => st_ne (Or.inl h))
theorem sv_up {V : FV} {c j : Nat} {x : Int32} : ∀ k, j < k → sv (st V c j x) c k = sv V c k + (x - V c j) := by
  intro k
  induction k with
  | zero => intro h; exact absurd h (by omega)
  | succ k ih =>
    intro h
    show sv (st V c j x) c k + st V c j x c k = sv V c k + V c k + (x - V c j)
    by_cases e : j = k
    · subst e
      rw [sv_congr j (fun i hi => st_ne (Or.inr (by omega))), st_eq]
      grind
    · rw [ih (by omega), st_ne (Or.inr (by omega))]
      grind
theorem sv_suN {n d q : Nat} {V : FV} {N : NN} (hR : Rel n d q V N) (hn : n ≤ 12) {r : Nat} (h4 : 4 ≤ r) (hr : r < 12) : sv V (6 + r) 12 = suN N r n := by
  have lo : ∀ k, k ≤ n → sv V (6 + r) k = suN N r k := by
    intro k
    induction k with
    | zero => intro _; rfl
    | succ k ih =>
      intro h
      show sv V (6 + r) k + V (6 + r) k = suN N r k + N (8 + 12 * k + r)
      rw [ih (by omega), hR.2.1 k r (by omega) hr]
  have hi : ∀ k, n + k ≤ 12 → sv V (6 + r) (n + k) = suN N r n := by
    intro k
    induction k with
    | zero => intro _; exact lo n (Nat.le_refl n)
    | succ k ih =>
      intro h
      show sv V (6 + r) (n + k) + V (6 + r) (n + k) = _
      rw [ih (by omega), hR.2.2.2.1 (n + k) r (by omega) (by omega) h4 (by omega), Int32.add_zero]
  have := hi (12 - n) (by omega)
  rw [show n + (12 - n) = 12 by omega] at this
  exact this
/-- the accounts: what was got is there or drawn; what was lent is paid back or claimed -/
def SV (V : FV) : Prop := sv V 12 12 = sv V 10 12 + (sv V 14 12 + sv V 15 12) ∧ sv V 16 12 = sv V 17 12 + sv V 11 12
theorem SV.congr {V V' : FV} (h : SV V) (e : ∀ c j, 10 ≤ c → c < 18 → j < 12 → V' c j = V c j) : SV V' := by
  unfold SV
  rw [sv_congr (c := 12) 12 (fun j hj => e 12 j (by omega) (by omega) hj), sv_congr (c := 10) 12 (fun j hj => e 10 j (by omega) (by omega) hj), sv_congr (c := 14) 12 (fun j hj => e 14 j (by omega) (by omega) hj), sv_congr (c := 15) 12 (fun j hj => e 15 j (by omega) (by omega) hj), sv_congr (c := 16) 12 (fun j hj => e 16 j (by omega) (by omega) hj), sv_congr (c := 17) 12 (fun j hj => e 17 j (by omega) (by omega) hj), sv_congr (c := 11) 12 (fun j hj => e 11 j (by omega) (by omega) hj)]
  exact h
theorem SV.flow {V : FV} {j : Nat} (hj : j < 12) {x y : Int32} (h : SV V) : SV (st (st (st V 10 j (V 10 j + x)) 12 j (st V 10 j (V 10 j + x) 12 j + x)) 13 j y) := by
  obtain ⟨h1, h2⟩ := h
  have e12 : st V 10 j (V 10 j + x) 12 j = V 12 j := st_ne (by omega)
  rw [e12]
  refine ⟨?_, ?_⟩
  · rw [sv_ne (c := 12) (i := 13) (by omega), sv_up (c := 12) 12 hj, sv_ne (c := 12) (i := 10) (by omega), sv_ne (c := 10) (i := 13) (by omega), sv_ne (c := 10) (i := 12) (by omega), sv_up (c := 10) 12 hj,
      sv_ne (c := 14) (i := 13) (by omega), sv_ne (c := 14) (i := 12) (by omega), sv_ne (c := 14) (i := 10) (by omega), sv_ne (c := 15) (i := 13) (by omega), sv_ne (c := 15) (i := 12) (by omega), sv_ne (c := 15) (i := 10) (by omega), h1, e12]
    grind
  · rw [sv_ne (c := 16) (i := 13) (by omega), sv_ne (c := 16) (i := 12) (by omega), sv_ne (c := 16) (i := 10) (by omega), sv_ne (c := 17) (i := 13) (by omega), sv_ne (c := 17) (i := 12) (by omega), sv_ne (c := 17) (i := 10) (by omega),
      sv_ne (c := 11) (i := 13) (by omega), sv_ne (c := 11) (i := 12) (by omega), sv_ne (c := 11) (i := 10) (by omega)]
    exact h2
/-- water goes from a well to another one, a claim and an account change alike (t: 16 lent, claims more; 17 paid, claims less) -/
theorem SV.move {V : FV} {a b i k : Nat} (ha : a < 12) (hb : b < 12) (hi : i < 12) (hk : k < 12) {x : Int32} (h : SV V) (W : FV) (eW : W = st (st V 10 a (V 10 a - x)) 10 b (st V 10 a (V 10 a - x) 10 b + x)) :
    SV (st (st W 11 i (W 11 i + x)) 16 k (st W 11 i (W 11 i + x) 16 k + x)) ∧ SV (st (st W 11 i (W 11 i - x)) 17 k (st W 11 i (W 11 i - x) 17 k + x)) := by
  obtain ⟨h1, h2⟩ := h
  have w10 : sv W 10 12 = sv V 10 12 := by
    rw [eW, sv_up (c := 10) 12 hb, sv_up (c := 10) 12 ha]
    grind
  have wo : ∀ c, c ≠ 10 → sv W c 12 = sv V c 12 := fun c hc => by rw [eW, sv_ne hc, sv_ne hc]
  have e16 : ∀ z, st W 11 i z 16 k = W 16 k := fun z => st_ne (by omega)
  have e17 : ∀ z, st W 11 i z 17 k = W 17 k := fun z => st_ne (by omega)
  rw [e16, e17]
  refine ⟨⟨?_, ?_⟩, ⟨?_, ?_⟩⟩
  · rw [sv_ne (c := 12) (i := 16) (by omega), sv_ne (c := 12) (i := 11) (by omega), sv_ne (c := 10) (i := 16) (by omega), sv_ne (c := 10) (i := 11) (by omega), sv_ne (c := 14) (i := 16) (by omega), sv_ne (c := 14) (i := 11) (by omega), sv_ne (c := 15) (i := 16) (by omega), sv_ne (c := 15) (i := 11) (by omega), w10, wo 12 (by omega), wo 14 (by omega), wo 15 (by omega)]
    exact h1
  · rw [sv_up (c := 16) 12 hk, sv_ne (c := 16) (i := 11) (by omega), sv_ne (c := 17) (i := 16) (by omega), sv_ne (c := 17) (i := 11) (by omega), sv_ne (c := 11) (i := 16) (by omega), sv_up (c := 11) 12 hi, wo 16 (by omega), wo 17 (by omega), wo 11 (by omega), h2, e16]
    grind
  · rw [sv_ne (c := 12) (i := 17) (by omega), sv_ne (c := 12) (i := 11) (by omega), sv_ne (c := 10) (i := 17) (by omega), sv_ne (c := 10) (i := 11) (by omega), sv_ne (c := 14) (i := 17) (by omega), sv_ne (c := 14) (i := 11) (by omega), sv_ne (c := 15) (i := 17) (by omega), sv_ne (c := 15) (i := 11) (by omega), w10, wo 12 (by omega), wo 14 (by omega), wo 15 (by omega)]
    exact h1
  · rw [sv_ne (c := 16) (i := 17) (by omega), sv_ne (c := 16) (i := 11) (by omega), sv_up (c := 17) 12 hk, sv_ne (c := 17) (i := 11) (by omega), sv_ne (c := 11) (i := 17) (by omega), sv_up (c := 11) 12 hi, wo 16 (by omega), wo 17 (by omega), wo 11 (by omega), h2, e17]
    grind
theorem SV.pour {V : FV} {j c : Nat} (hj : j < 12) (hc : c = 14 ∨ c = 15) {x : Int32} (h : SV V) : SV (st (st V 10 j (V 10 j - x)) c j (st V 10 j (V 10 j - x) c j + x)) := by
  obtain ⟨h1, h2⟩ := h
  have ec : st V 10 j (V 10 j - x) c j = V c j := st_ne (by omega)
  rw [ec]
  refine ⟨?_, ?_⟩
  · rcases hc with rfl | rfl
    · rw [sv_ne (c := 12) (i := 14) (by omega), sv_ne (c := 12) (i := 10) (by omega), sv_ne (c := 10) (i := 14) (by omega), sv_up (c := 10) 12 hj, sv_up (c := 14) 12 hj, sv_ne (c := 14) (i := 10) (by omega), sv_ne (c := 15) (i := 14) (by omega), sv_ne (c := 15) (i := 10) (by omega), h1, ec]
      grind
    · rw [sv_ne (c := 12) (i := 15) (by omega), sv_ne (c := 12) (i := 10) (by omega), sv_ne (c := 10) (i := 15) (by omega), sv_up (c := 10) 12 hj, sv_ne (c := 14) (i := 15) (by omega), sv_ne (c := 14) (i := 10) (by omega), sv_up (c := 15) 12 hj, sv_ne (c := 15) (i := 10) (by omega), h1, ec]
      grind
  · rw [sv_ne (c := 16) (by omega), sv_ne (c := 16) (by omega), sv_ne (c := 17) (by omega), sv_ne (c := 17) (by omega), sv_ne (c := 11) (by omega), sv_ne (c := 11) (by omega)]
    exact h2
