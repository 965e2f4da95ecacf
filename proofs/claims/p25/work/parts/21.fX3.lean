/-! copyRows: rows of an array of arrays, any number -/
def cpF (k : Nat) (u w : Nat → Int32) : Nat → Int32 := fun j => if j < k then u j else w j
def cpW (n k : Nat) (U X : Nat → Nat → Int32) : Nat → Nat → Int32 := fun a => if a < n then cpF k (U a) (X a) else X a
def cpR (V U : FV) (b n k : Nat) : FV := fun a => if b ≤ a ∧ a < b + n then cpF k (U a) (V a) else V a
def RW (n k : Nat) (cy : Nat → ClassId) (o : Nat) (r : Nat → Nat) (f : Nat → Nat → Int32) : va_W :=
  (o, .inl (cy 1, n, .inr (.inr (.inr (.inr (fun i => if i < n then some (r i) else none)))))) :: (List.range n).map (fun i => (r i, .inl (cy 0, k, .inl (f i))))
theorem RW_len {n k : Nat} {cy : Nat → ClassId} {o : Nat} {r : Nat → Nat} {f : Nat → Nat → Int32} : (RW n k cy o r f).length = n + 1 := by simp [RW]
theorem RW_at {n k : Nat} {cy : Nat → ClassId} {o : Nat} {r : Nat → Nat} {f : Nat → Nat → Int32} {i : Nat} (hi : i < n) : (RW n k cy o r f)[1 + i]? = some (r i, .inl (cy 0, k, .inl (f i))) := by
  rw [Nat.add_comm]
  simp [RW, hi]
section RWS
variable {n k : Nat} {cy : Nat → ClassId} {p q : Nat} {rp rq : Nat → Nat} {U X : Nat → Nat → Int32} {i : Nat}
theorem RW_1 (hi : i < n) : (RW n k cy p rp U ++ RW n k cy q rq X)[1 + i]? = some (rp i, .inl (cy 0, k, .inl (U i))) := by
  rw [List.getElem?_append_left (by rw [RW_len]; omega)]
  exact RW_at hi
theorem RW_h : (RW n k cy p rp U ++ RW n k cy q rq X)[n + 1]? = some (q, .inl (cy 1, n, .inr (.inr (.inr (.inr (fun i => if i < n then some (rq i) else none)))))) := by
  rw [List.getElem?_append_right (by rw [RW_len]; omega), RW_len, Nat.sub_self]
  rfl
theorem RW_2 (hi : i < n) : (RW n k cy p rp U ++ RW n k cy q rq X)[n + 1 + (1 + i)]? = some (rq i, .inl (cy 0, k, .inl (X i))) := by
  rw [List.getElem?_append_right (by rw [RW_len]; omega), RW_len, Nat.add_sub_cancel_left]
  exact RW_at hi
theorem RW_st (hi : i < n) {g : Nat → Int32} : (RW n k cy p rp U ++ RW n k cy q rq X).set (n + 1 + (1 + i)) (rq i, .inl (cy 0, k, .inl g)) = RW n k cy p rp U ++ RW n k cy q rq (fun a => if a = i then g else X a) := by
  rw [List.set_append_right _ _ (by rw [RW_len]; omega), RW_len, Nat.add_sub_cancel_left]
  congr 1
  unfold RW
  rw [Nat.add_comm 1 i, List.set_cons_succ]
  congr 1
  apply List.ext_getElem?
  intro j
  by_cases hj : i = j
  · subst hj
    rw [List.getElem?_set_self (by simp [hi])]
    simp [hi]
  · rw [List.getElem?_set_ne hj]
    by_cases h2 : j < n
    · simp [h2, Ne.symm hj]
    · simp [h2]
end RWS
theorem cpW_0 (k : Nat) (U X : Nat → Nat → Int32) : cpW 0 k U X = X := by
  funext a
  exact if_neg (Nat.not_lt_zero a)
theorem cpW_s (i k : Nat) (U X : Nat → Nat → Int32) : (fun a => if a = i then va_cpy (U i) (cpW i k U X i) 0 0 k else cpW i k U X a) = cpW (i + 1) k U X := by
  funext a
  unfold cpW
  by_cases h : a = i
  · subst h
    rw [if_pos rfl, if_neg (Nat.lt_irrefl a), if_pos (Nat.lt_succ_self a)]
    funext j
    unfold va_cpy cpF
    by_cases h2 : j < k
    · rw [if_pos ⟨Nat.zero_le j, by omega⟩, if_pos h2]
      congr 1
      omega
    · rw [if_neg (by omega), if_neg h2]
  · rw [if_neg h]
    by_cases h2 : a < i
    · rw [if_pos h2, if_pos (by omega)]
    · rw [if_neg h2, if_neg (by omega)]
set_option maxHeartbeats 4000000 in
set_option maxRecDepth 100000 in
theorem C_X0_copyRows (l : Launch) (D : va_G) (cy : Nat → ClassId) (n k p q : Nat) (rp rq : Nat → Nat) (U X : Nat → Nat → Int32) (hn : n < 1000) (hk : k < 1000) : ConV l yX0_copyRows wsX0_copyRows 1 100 D cy (fun (u : Nat → Nat → Int32) => RW n k cy p rp U ++ RW n k cy q rq u) [.ref p, .ref q] X (cpW n k U X) := by
  refine bodyV (cc := cX0_copyRows) (maxL := 4) (by decide +kernel) rfl (Nat.le_of_ble_eq_true rfl) ?_
  intro p0 e s m args below meth c A Q hx hb hml hts hown hK hP hD hA hS hend ls hl
  have hown : s.vm.findClass RX0 = some m.cls := hown
  have hP : va_P D vwCl (RW n k cy p rp U ++ RW n k cy q rq X) s.heap := hP
  have hD : va_D A (RW n k cy p rp U ++ RW n k cy q rq X) := hD
  have hl : lv_has ls 4 [(0, .ref p), (1, .ref q)] := hl
  have mm_l := hts (.methodLink RX0 49 Lib.Math.min.name) (by decide +kernel)
  have mm_s := hts (.static Lib.Math.min.name) (by decide +kernel)
  have mm_i := hts (.initialized "java/lang/Math") (by decide +kernel)
  have mm_c := hts (.code Lib.Math.min.name Lib.Math.min.code 2 (some .int)) (by decide +kernel)
  have ac_l := hts (.methodLink RX0 55 arraycopyName) (by decide +kernel)
  have ac_n := hts (.native arraycopyName) (by decide +kernel)
  have ac_s := hts (.static arraycopyName) (by decide +kernel)
  have ac_i := hts (.initialized "java/lang/System") (by decide +kernel)
  have L2 : ∀ (t i : Nat), i ≤ n → n < i + t → ∀ (H : Heap) (locs : List Loc) (ls : Array Slot), va_P D vwCl (RW n k cy p rp U ++ RW n k cy q rq (cpW i k U X)) H → va_D A (RW n k cy p rp U ++ RW n k cy q rq (cpW i k U X)) → va_S A s.heap H locs → lv_has ls 4 [(0, .ref p), (1, .ref q), (2, .int (nI i))] → W p0 l e (RM 1 100) s m args below meth c H locs 0 0 Q (F0 m 2 ls []) := by
    intro t
    induction t with
    | zero =>
      intro i h1 h2
      exact absurd h2 (by omega)
    | succ t ih =>
      intro i h1 h2 H locs ls hP hD hS hl
      refine lv_iload_n hx hb dX0_copyRows_2 rfl (lv_at hl 2 rfl) ?_
      refine lv_aload_n hx hb dX0_copyRows_3 rfl (lv_at hl 0 rfl) ?_
      refine va_alen (v := nI n) hx hb hK.1 hP 0 1 rfl rfl rfl dX0_copyRows_4 ?_
      refine lv_icmp_ge (tgt := 44) hx hb dX0_copyRows_5 (by decide) (fun c1 => ?_) (fun c1 => ?_)
      · have hi : i = n := by
          rcases Nat.lt_or_ge i n with q | q
          · exact absurd c1 (nI_ge q (by omega))
          · omega
        subst hi
        exact hend H locs _ _ _ rfl hP hD hS dX0_copyRows_44
      · have hi : i < n := by
          rcases Nat.lt_or_ge i n with q | q
          · exact q
          · exact absurd (nI_le q (by omega)) c1
        refine lv_iload_n hx hb dX0_copyRows_8 rfl (lv_at hl 2 rfl) ?_
        refine lv_aload_n hx hb dX0_copyRows_9 rfl (lv_at hl 1 rfl) ?_
        refine va_alen (v := nI n) hx hb hK.1 hP (n + 1) 1 RW_h rfl rfl dX0_copyRows_10 ?_
        refine lv_icmp_ge (tgt := 44) hx hb dX0_copyRows_11 (by decide) (fun c2 => absurd c2 c1) (fun c2 => ?_)
        have hin : vp_in (nI i) n := vp_in_nI hi (by omega)
        have hcl : (nI i).toNatClampNeg = i := nI_clamp (by omega)
        refine lv_aload_n hx hb dX0_copyRows_14 rfl (lv_at hl 0 rfl) ?_
        refine lv_iload_n hx hb dX0_copyRows_15 rfl (lv_at hl 2 rfl) ?_
        refine g_aald (v := rp i) hx hb hK hP 0 rfl hin (by rw [hcl]; exact if_pos hi) dX0_copyRows_16 ?_
        refine va_alen (v := nI k) hx hb hK.1 hP (1 + i) 0 (RW_1 hi) rfl rfl dX0_copyRows_17 ?_
        refine lv_aload_n hx hb dX0_copyRows_18 rfl (lv_at hl 1 rfl) ?_
        refine lv_iload_n hx hb dX0_copyRows_19 rfl (lv_at hl 2 rfl) ?_
        refine g_aald (v := rq i) hx hb hK hP (n + 1) RW_h hin (by rw [hcl]; exact if_pos hi) dX0_copyRows_20 ?_
        refine va_alen (v := nI k) hx hb hK.1 hP (n + 1 + (1 + i)) 0 (RW_2 hi) rfl rfl dX0_copyRows_21 ?_
        refine g_min (v := nI k) (by unfold jmin; split <;> rfl) hx hb hml hl.1 hown mm_l mm_s mm_i mm_c (Nat.le_of_ble_eq_true rfl) (Nat.le_of_ble_eq_true rfl) (Nat.le_refl _) (Nat.le_refl _) dX0_copyRows_22 ?_
        refine lv_istore_n (lv' := [(3, .int (nI k)), (0, .ref p), (1, .ref q), (2, .int (nI i))]) hx hb dX0_copyRows_25 rfl hl (by decide) rfl (fun ls hl => ?_)
        refine lv_aload_n hx hb dX0_copyRows_26 rfl (lv_at hl 1 rfl) ?_
        refine lv_iload_n hx hb dX0_copyRows_27 rfl (lv_at hl 3 rfl) ?_
        refine g_aald (v := rp i) hx hb hK hP 0 rfl hin (by rw [hcl]; exact if_pos hi) dX0_copyRows_28 ?_
        refine lv_iconst (v := 0) hx hb dX0_copyRows_29 (by decide) ?_
        refine lv_aload_n hx hb dX0_copyRows_30 rfl (lv_at hl 2 rfl) ?_
        refine lv_iload_n hx hb dX0_copyRows_31 rfl (lv_at hl 3 rfl) ?_
        refine g_aald (v := rq i) hx hb hK hP (n + 1) RW_h hin (by rw [hcl]; exact if_pos hi) dX0_copyRows_32 ?_
        refine lv_iconst (v := 0) hx hb dX0_copyRows_33 (by decide) ?_
        refine lv_iload_n hx hb dX0_copyRows_34 rfl (lv_at hl 0 rfl) ?_
        have hck : (nI k).toNatClampNeg = k := nI_clamp (by omega)
        have h00 : (0 : Int32).toNatClampNeg = 0 := rfl
        refine va_copyi hx hb (hml.trans hl.1.symm) hown ac_l ac_n ac_s ac_i hK.1 hP hD hS (1 + i) (n + 1 + (1 + i)) 0 0 (RW_1 hi) (RW_2 hi) rfl rfl rfl (by decide) (by decide) (nI_pos (by omega)) (by rw [hck, h00]; omega) (by rw [hck, h00]; omega) (fun _ _ => rfl) (Nat.le_of_ble_eq_true rfl) (Nat.le_of_ble_eq_true rfl) dX0_copyRows_35 (fun H locs hP hD hS => ?_)
        rw [hck, h00, RW_st hi, cpW_s] at hP hD
        refine lv_iinc (v := nI (i + 1)) (lv' := [(2, .int (nI (i + 1))), (3, .int (nI k)), (0, .ref p), (1, .ref q)]) hx hb dX0_copyRows_38 hl (k := 3) rfl (nI_1 i) (by decide) rfl (fun ls hl => ?_)
        refine lv_goto (tgt := 2) hx hb dX0_copyRows_41 (by decide) ?_
        exact ih (i + 1) hi (by omega) H locs ls hP hD hS (lv_sub hl [2, 3, 0] rfl)
  refine lv_iconst (v := 0) hx hb dX0_copyRows_0 (by decide) ?_
  refine lv_istore_n (lv' := [(2, .int 0), (0, .ref p), (1, .ref q)]) hx hb dX0_copyRows_1 rfl hl (by decide) rfl (fun ls hl => ?_)
  exact L2 (n + 1) 0 (by omega) (by omega) _ _ ls (by rw [cpW_0]; exact hP) (by rw [cpW_0]; exact hD) hS (lv_sub hl [1, 2, 0] rfl)
theorem pm_R {α : Type} (x o y z w : List α) : (x ++ (o ++ (y ++ (z ++ w)))).Perm ((o ++ z) ++ (x ++ (y ++ w))) := by
  refine (List.perm_append_comm_assoc x o _).trans ?_
  rw [List.append_assoc o z]
  refine List.Perm.append_left o ?_
  rw [← List.append_assoc x y (z ++ w), ← List.append_assoc x y w]
  exact List.perm_append_comm_assoc (x ++ y) z w
theorem pm_2R {α : Type} {a b ra rb xa xb : List α} (ha : a.Perm (ra ++ xa)) (hb : b.Perm (rb ++ xb)) : (a ++ b).Perm ((rb ++ ra) ++ (xb ++ xa)) := by
  refine (List.Perm.append ha hb).trans ?_
  refine List.perm_append_comm.trans ?_
  rw [List.append_assoc rb xb, List.append_assoc rb ra]
  refine List.Perm.append_left rb ?_
  exact List.perm_append_comm_assoc xb ra xa
section JR
variable {D : va_G} {A : Nat → Prop} {cy : Nat → ClassId} {a b : Nat → Nat} {V U : FV}
theorem J_w : Jn D A (FW cy a V ++ FW cy b U) (RW 13 12 cy (b 1) (fun i => b (6 + i)) (fun i => U (6 + i)) ++ RW 13 12 cy (a 1) (fun i => a (6 + i)) (fun i => V (6 + i)))
    (RW 13 12 cy (b 1) (fun i => b (6 + i)) (fun i => U (6 + i)) ++ RW 13 12 cy (a 1) (fun i => a (6 + i)) (cpW 13 12 (fun i => U (6 + i)) (fun i => V (6 + i)))) (FW cy a (cpR V U 6 13 12) ++ FW cy b U) := by
  have h : ∀ (c : Nat → Nat) (Z : FV), (FW cy c Z).Perm (RW 13 12 cy (c 1) (fun i => c (6 + i)) (fun i => Z (6 + i)) ++ ((FW cy c Z).take 1 ++ (((FW cy c Z).drop 2).take 4 ++ (FW cy c Z).drop 19))) := fun c Z =>
    pm_R ((FW cy c Z).take 1) [(c 1, .inl (cy 1, 13, .inr (.inr (.inr (.inr (fun i => if i < 13 then some (c (6 + i)) else none))))))] (((FW cy c Z).drop 2).take 4) (((FW cy c Z).drop 6).take 13) ((FW cy c Z).drop 19)
  exact Jn.perm (pm_2R (h a V) (h b U)) (pm_2R (h a (cpR V U 6 13 12)) (h b U))
theorem J_d : Jn D A (FW cy a V ++ FW cy b U) (RW 3 20 cy (b 2) (fun i => b (19 + i)) (fun i => U (19 + i)) ++ RW 3 20 cy (a 2) (fun i => a (19 + i)) (fun i => V (19 + i)))
    (RW 3 20 cy (b 2) (fun i => b (19 + i)) (fun i => U (19 + i)) ++ RW 3 20 cy (a 2) (fun i => a (19 + i)) (cpW 3 20 (fun i => U (19 + i)) (fun i => V (19 + i)))) (FW cy a (cpR V U 19 3 20) ++ FW cy b U) := by
  have h : ∀ (c : Nat → Nat) (Z : FV), (FW cy c Z).Perm (RW 3 20 cy (c 2) (fun i => c (19 + i)) (fun i => Z (19 + i)) ++ ((FW cy c Z).take 2 ++ (((FW cy c Z).drop 3).take 16 ++ (FW cy c Z).drop 22))) := fun c Z =>
    pm_R ((FW cy c Z).take 2) [(c 2, .inl (cy 1, 3, .inr (.inr (.inr (.inr (fun i => if i < 3 then some (c (19 + i)) else none))))))] (((FW cy c Z).drop 3).take 16) (((FW cy c Z).drop 19).take 3) ((FW cy c Z).drop 22)
  exact Jn.perm (pm_2R (h a V) (h b U)) (pm_2R (h a (cpR V U 19 3 20)) (h b U))
theorem J_r : Jn D A (FW cy a V ++ FW cy b U) (RW 3 8 cy (b 3) (fun i => b (22 + i)) (fun i => U (22 + i)) ++ RW 3 8 cy (a 3) (fun i => a (22 + i)) (fun i => V (22 + i)))
    (RW 3 8 cy (b 3) (fun i => b (22 + i)) (fun i => U (22 + i)) ++ RW 3 8 cy (a 3) (fun i => a (22 + i)) (cpW 3 8 (fun i => U (22 + i)) (fun i => V (22 + i)))) (FW cy a (cpR V U 22 3 8) ++ FW cy b U) := by
  have h : ∀ (c : Nat → Nat) (Z : FV), (FW cy c Z).Perm (RW 3 8 cy (c 3) (fun i => c (22 + i)) (fun i => Z (22 + i)) ++ ((FW cy c Z).take 3 ++ (((FW cy c Z).drop 4).take 18 ++ (FW cy c Z).drop 25))) := fun c Z =>
    pm_R ((FW cy c Z).take 3) [(c 3, .inl (cy 1, 3, .inr (.inr (.inr (.inr (fun i => if i < 3 then some (c (22 + i)) else none))))))] (((FW cy c Z).drop 4).take 18) (((FW cy c Z).drop 22).take 3) ((FW cy c Z).drop 25)
  exact Jn.perm (pm_2R (h a V) (h b U)) (pm_2R (h a (cpR V U 22 3 8)) (h b U))
end JR
/-! the history's slots -/
section JS
variable {D : va_G} {A : Nat → Prop} {cy : Nat → ClassId} {aa : Nat → Nat → Nat} {b : Nat → Nat} {V X : FV} {G : Nat → FV}
theorem pm_6 {α : Type} (x a b c d e : List α) : (x ++ (a ++ (b ++ (c ++ (d ++ e))))).Perm (d ++ (x ++ (a ++ (b ++ (c ++ e))))) := by
  refine (List.Perm.append_left x (pm_4 a b c d e)).trans ?_
  exact List.perm_append_comm_assoc x d _
theorem pm_7 {α : Type} (x a b c d e : List α) : (x ++ (a ++ (b ++ (c ++ (d ++ e))))).Perm (e ++ (x ++ (a ++ (b ++ (c ++ d))))) := by
  refine (List.Perm.append_left x (pm_5 a b c d e)).trans ?_
  exact List.perm_append_comm_assoc x e _
theorem pm_tail {α : Type} {h f r b : List α} (p : h.Perm (f ++ r)) : (h ++ b).Perm ((f ++ b) ++ r) := by
  refine (List.Perm.append_right b p).trans ?_
  rw [List.append_assoc, List.append_assoc]
  exact List.Perm.append_left f List.perm_append_comm
theorem pm_tail2 {α : Type} {h f r b : List α} (p : h.Perm (f ++ r)) : (h ++ b).Perm ((b ++ f) ++ r) := (pm_tail p).trans (List.Perm.append_right r List.perm_append_comm)
def HHd (cy : Nat → ClassId) (aa : Nat → Nat → Nat) (G : Nat → FV) : va_W := (HW cy aa G).take 2
theorem HW_1 : (HW cy aa G).Perm (FW cy (aa 1) (G 1) ++ (HHd cy aa G ++ (FW cy (aa 2) (G 2) ++ (FW cy (aa 3) (G 3) ++ (FW cy (aa 4) (G 4) ++ FW cy (aa 5) (G 5)))))) := List.perm_append_comm_assoc (HHd cy aa G) _ _
theorem HW_2 : (HW cy aa G).Perm (FW cy (aa 2) (G 2) ++ (HHd cy aa G ++ (FW cy (aa 1) (G 1) ++ (FW cy (aa 3) (G 3) ++ (FW cy (aa 4) (G 4) ++ FW cy (aa 5) (G 5)))))) := pm_3 (HHd cy aa G) _ _ _
theorem HW_3 : (HW cy aa G).Perm (FW cy (aa 3) (G 3) ++ (HHd cy aa G ++ (FW cy (aa 1) (G 1) ++ (FW cy (aa 2) (G 2) ++ (FW cy (aa 4) (G 4) ++ FW cy (aa 5) (G 5)))))) := pm_4 (HHd cy aa G) _ _ _ _
theorem HW_4 : (HW cy aa G).Perm (FW cy (aa 4) (G 4) ++ (HHd cy aa G ++ (FW cy (aa 1) (G 1) ++ (FW cy (aa 2) (G 2) ++ (FW cy (aa 3) (G 3) ++ FW cy (aa 5) (G 5)))))) := pm_6 (HHd cy aa G) _ _ _ _ _
theorem HW_5 : (HW cy aa G).Perm (FW cy (aa 5) (G 5) ++ (HHd cy aa G ++ (FW cy (aa 1) (G 1) ++ (FW cy (aa 2) (G 2) ++ (FW cy (aa 3) (G 3) ++ FW cy (aa 4) (G 4)))))) := pm_7 (HHd cy aa G) _ _ _ _ _
theorem J_slot : ∀ {j : Nat}, j < 5 → Jn D A (HW cy aa G ++ FW cy b V) (FW cy (aa (j + 1)) (G (j + 1)) ++ FW cy b V) (FW cy (aa (j + 1)) X ++ FW cy b V) (HW cy aa (va_up G (j + 1) X) ++ FW cy b V)
  | 0, _ => Jn.perm (pm_tail HW_1) (pm_tail (HW_1 (G := va_up G 1 X)))
  | 1, _ => Jn.perm (pm_tail HW_2) (pm_tail (HW_2 (G := va_up G 2 X)))
  | 2, _ => Jn.perm (pm_tail HW_3) (pm_tail (HW_3 (G := va_up G 3 X)))
  | 3, _ => Jn.perm (pm_tail HW_4) (pm_tail (HW_4 (G := va_up G 4 X)))
  | 4, _ => Jn.perm (pm_tail HW_5) (pm_tail (HW_5 (G := va_up G 5 X)))
  | _ + 5, h => absurd h (by omega)
theorem J_slot2 : ∀ {j : Nat}, j < 5 → Jn D A (HW cy aa G ++ FW cy b V) (FW cy b V ++ FW cy (aa (j + 1)) (G (j + 1))) (FW cy b X ++ FW cy (aa (j + 1)) (G (j + 1))) (HW cy aa G ++ FW cy b X)
  | 0, _ => Jn.perm (pm_tail2 HW_1) (pm_tail2 HW_1)
  | 1, _ => Jn.perm (pm_tail2 HW_2) (pm_tail2 HW_2)
  | 2, _ => Jn.perm (pm_tail2 HW_3) (pm_tail2 HW_3)
  | 3, _ => Jn.perm (pm_tail2 HW_4) (pm_tail2 HW_4)
  | 4, _ => Jn.perm (pm_tail2 HW_5) (pm_tail2 HW_5)
  | _ + 5, h => absurd h (by omega)
end JS
section GF
variable {p : Program} {l : Launch} {e : Env} {R : Room} {s : State} {m : MethodId} {args : Array Value} {below : List Frame} {meth : Method} {c : Code} {H : Heap} {locs : List Loc} {cells slots : Nat} {Q : State → Prop}
variable {cc : ByteArray} {pc : Nat} {ls : Array Slot} {rest st0 : List Value} {D : va_G} {cy : Nat → ClassId} {A : Nat → Prop} {a : Nat} {ws w' : va_W} {H0 : Heap}
/-- the array of the history's states is read -/
theorem g_aaldF (hexec : p.tables.exec = Jvm.exec) (hb : c.code = cc) (hK : KX D cy s) (hP : va_P D vwCl ws H) (q0 : Nat) {n v : Nat} {f : Nat → Option Nat} (ha : ws[q0]? = some (a, .inl (cy 3, n, .inr (.inr (.inr (.inr f)))))) {i : Int32} (hin : vp_in i n) (hv : f i.toNatClampNeg = some v) (hdg : decode cc pc = .ok (.aaload, 1))
    (kk : W p l e R s m args below meth c H locs cells slots Q (F0 m (pc + 1) ls (.ref v :: rest))) : W p l e R s m args below meth c H locs cells slots Q (F0 m pc ls (.int i :: .ref a :: rest)) := by
  refine va_aldq hexec hb hK.1 hP q0 3 ha rfl hin hdg ?_
  rw [hv]
  exact kk
end GF
theorem NW_row {cy : Nat → ClassId} {aN : Nat → Nat → Nat} {v1 v2 v3 : FV} {G : Nat → FV} : ∀ {i : Nat}, i < 13 → (NW cy aN v1 v2 G v3)[1 + (6 + i)]? = some (aN 1 (6 + i), .inl (cy 0, 12, .inl (v1 (6 + i)))) := by
  intro i h
  match i, h with
  | 0, _ => rfl | 1, _ => rfl | 2, _ => rfl | 3, _ => rfl | 4, _ => rfl | 5, _ => rfl | 6, _ => rfl | 7, _ => rfl | 8, _ => rfl | 9, _ => rfl | 10, _ => rfl | 11, _ => rfl | 12, _ => rfl
theorem NW_dry {cy : Nat → ClassId} {aN : Nat → Nat → Nat} {v1 v2 v3 : FV} {G : Nat → FV} : ∀ {i : Nat}, i < 3 → (NW cy aN v1 v2 G v3)[1 + (19 + i)]? = some (aN 1 (19 + i), .inl (cy 0, 20, .inl (v1 (19 + i)))) := by
  intro i h
  match i, h with
  | 0, _ => rfl | 1, _ => rfl | 2, _ => rfl
theorem NW_req {cy : Nat → ClassId} {aN : Nat → Nat → Nat} {v1 v2 v3 : FV} {G : Nat → FV} : ∀ {i : Nat}, i < 3 → (NW cy aN v1 v2 G v3)[1 + (22 + i)]? = some (aN 1 (22 + i), .inl (cy 0, 8, .inl (v1 (22 + i)))) := by
  intro i h
  match i, h with
  | 0, _ => rfl | 1, _ => rfl | 2, _ => rfl
noncomputable def f_X0_copyFrom (V : FV) (U : FV) : Option (FV) := (lt1 (cpR V U 6 13 12) fun V1 => (lt1 (cpR V1 U 19 3 20) fun V2 => (lt1 (cpR V2 U 22 3 8) fun V3 => (lt1 (st V3 4 0 (U 4 0)) fun V4 => (lt1 (st V4 4 1 (U 4 1)) fun V5 => (lt1 (st V5 0 0 (U 0 0)) fun V6 => (lt1 (st V6 0 1 (U 0 1)) fun V7 => (lt1 (st V7 0 2 (U 0 2)) fun V8 => (lt1 (st V8 0 3 (U 0 3)) fun V9 => (lt1 (st V9 0 4 (U 0 4)) fun V10 => some V10))))))))))
noncomputable def f_X1_keep (G : (Nat → FV)) : Option ((Nat → FV)) := (if 4 ≤ (G 0 0 1) then (lt1 (stG G 0 0 0 (((G 0 0 0) + 1) - ((G 0 0 0) + 1) / 5 * 5)) fun G2 => some G2) else (lt1 (stG G 0 0 1 ((G 0 0 1) + 1)) fun G3 => some G3))
noncomputable def f_X1_note (G : (Nat → FV)) (V : FV) : Option (((Nat → FV) × FV)) := ((ix 5 (((G 0 0 0) + (G 0 0 1)) - ((G 0 0 0) + (G 0 0 1)) / 5 * 5)).bind fun j1 => ((f_X0_copyFrom (G (j1 + 1)) V).bind fun X2 => some ((va_up G (j1 + 1) X2, V))))
noncomputable def f_X1_giveBack (G : (Nat → FV)) (V : FV) : Option (((Nat → FV) × FV)) := (if (G 0 0 1) ≤ 0 then some ((G, V)) else (lt1 (stG G 0 0 1 ((G 0 0 1) - 1)) fun G2 => ((ix 5 (((G2 0 0 0) + (G2 0 0 1)) - ((G2 0 0 0) + (G2 0 0 1)) / 5 * 5)).bind fun j3 => ((f_X0_copyFrom V (G2 (j3 + 1))).bind fun X4 => some ((G2, X4))))))
noncomputable def f_X2_numbersOf (p0 : Int32) : Option (Int32) := (if p0 = 100 then some 2 else if p0 = 110 then some 3 else if p0 = 114 then some 2 else if p0 = 116 then some 1 else some 0)
noncomputable def f_X2_isDigit (p0 : Int32) : Option (Int32) := (if p0 < 48 then some 0 else (if 57 < p0 then some 0 else some 1))
noncomputable def f_X2_append (V : FV) (p1 : Int32) : Option (Int32 × FV) := (if (V 0 0) < 60 then ((wr 60 V 1 (V 0 0) (vp_nar .char p1)).bind fun V2 => (lt1 (st V2 0 0 ((V2 0 0) + 1)) fun V3 => some (1, V3))) else some (0, V))
noncomputable def f_X2_readNumber_L4 : Nat → Int32 → Int32 → Int32 → FV → Option (Int32 × FV)
  | 0 => fun _ _ _ _ => none
  | n + 1 => fun y1 y2 y3 V => (if 3 ≤ y3 then ((wr 3 V 2 y1 y2).bind fun V2 => (if y3 ≤ 0 then some (0, V2) else some (1, V2))) else (if (V 0 0) ≤ (V 0 1) then ((wr 3 V 2 y1 y2).bind fun V5 => (if y3 ≤ 0 then some (0, V5) else some (1, V5))) else ((rd 60 (V 1) (V 0 1)).bind fun x7 => ((f_X2_isDigit x7).bind fun x8 => (if x8 = 0 then ((wr 3 V 2 y1 y2).bind fun V10 => (if y3 ≤ 0 then some (0, V10) else some (1, V10))) else ((rd 60 (V 1) (V 0 1)).bind fun x12 => (lt1 (st V 0 1 ((V 0 1) + 1)) fun V13 => (f_X2_readNumber_L4 n y1 ((y2 * 10) + (x12 - 48)) (y3 + 1) V13))))))))
noncomputable def f_X2_readNumber (V : FV) (p1 : Int32) : Option (Int32 × FV) := (f_X2_readNumber_L4 FUEL p1 0 0 V)
noncomputable def f_X2_readOrder_L17 : Nat → Int32 → Int32 → Int32 → FV → Option (Int32 × FV)
  | 0 => fun _ _ _ _ => none
  | n + 1 => fun y1 y2 y3 V => (if y2 ≤ y3 then (if y2 ≤ 0 then some (0, V) else some (1, V)) else (if 3 ≤ y3 then (if y2 ≤ 0 then some (0, V) else some (1, V)) else (if y3 = (y2 - 1) then (b2 (f_X2_readNumber V y3) fun x14 V14 => (if x14 = 0 then some (0, V14) else (if (V14 0 0) ≤ (V14 0 1) then some (0, V14) else ((rd 60 (V14 1) (V14 0 1)).bind fun x17 => (if x17 = 59 then (lt1 (st V14 0 1 ((V14 0 1) + 1)) fun V19 => (f_X2_readOrder_L17 n y1 y2 (y3 + 1) V19)) else some (0, V14)))))) else (b2 (f_X2_readNumber V y3) fun x8 V8 => (if x8 = 0 then some (0, V8) else (if (V8 0 0) ≤ (V8 0 1) then some (0, V8) else ((rd 60 (V8 1) (V8 0 1)).bind fun x11 => (if x11 = 44 then (lt1 (st V8 0 1 ((V8 0 1) + 1)) fun V13 => (f_X2_readOrder_L17 n y1 y2 (y3 + 1) V13)) else some (0, V8)))))))))
noncomputable def f_X2_readOrder (V : FV) (p1 : Int32) : Option (Int32 × FV) := (lt1 (st V 0 1 ((V 0 1) + 1)) fun V1 => ((f_X2_numbersOf p1).bind fun x2 => (f_X2_readOrder_L17 FUEL p1 x2 0 V1)))
noncomputable def f_X2_doOrder (U : FV) (V : FV) (p2 : Int32) : Option (Int32 × FV × FV) := (if p2 = 100 then (b2 (f_X0_takeDraw U (V 2 0) (V 2 1)) fun x2 U2 => some (x2, (U2, V))) else if p2 = 110 then (b2 (f_X0_addDrought U (V 2 0) ((U 0 3) + (V 2 1)) ((U 0 3) + (V 2 2))) fun x4 U4 => some (x4, (U4, V))) else if p2 = 114 then (b2 (f_X0_takeRequest U (V 2 0) (V 2 1)) fun x6 U6 => some (x6, (U6, V))) else if p2 = 116 then (b2 (f_X0_passTicks U (V 2 0)) fun x8 U8 => some (x8, (U8, V))) else some ((-1), (U, V)))
noncomputable def f_X2_runOn_L22 : Nat → Int32 → FV → FV → Option (FV × FV)
  | 0 => fun _ _ _ => none
  | n + 1 => fun y2 U V => (if 60 ≤ y2 then some ((U, V)) else (if (V 0 0) ≤ (V 0 1) then some ((U, V)) else (lt1 (st V 0 3 (V 0 1)) fun V7 => ((rd 60 (V7 1) (V7 0 1)).bind fun x8 => (b2 (f_X2_readOrder V7 x8) fun x9 V9 => (if x9 = 0 then (lt1 (st V9 0 4 1) fun V17 => some ((U, V17))) else (b2 (f_X2_doOrder U V9 x8) fun x11 t11 => (if 0 ≤ x11 then (lt1 (st t11.2 0 2 ((t11.2 0 2) + 1)) fun V13 => (f_X2_runOn_L22 n (y2 + 1) t11.1 V13)) else (if x11 = ((-1)) then (lt1 (st t11.2 0 4 2) fun V16 => some ((t11.1, V16))) else (lt1 (st t11.2 0 4 3) fun V15 => some ((t11.1, V15))))))))))))
noncomputable def f_X2_runOn (U : FV) (V : FV) : Option (FV × FV) := (lt1 (st V 0 2 0) fun V1 => (lt1 (st V1 0 3 0) fun V2 => (lt1 (st V2 0 4 0) fun V3 => (lt1 (st V3 0 1 0) fun V4 => (f_X2_runOn_L22 FUEL 0 U V4)))))
noncomputable def f_X3_droughtOf (v1 : FV) (v2 : FV) (G : (Nat → FV)) (v3 : FV) (p1 : Int32) (p2 : Int32) : Option (Int32) := (if p1 < 0 then some ((-1)) else (if (v1 0 1) ≤ p1 then some ((-1)) else (if p2 < 0 then some ((-1)) else (if p2 < 3 then ((ix 3 p2).bind fun j5 => ((rd 20 (v1 (19 + j5)) p1).bind fun x6 => some x6)) else some ((-1))))))
noncomputable def f_X3_wellOf (v1 : FV) (v2 : FV) (G : (Nat → FV)) (v3 : FV) (p1 : Int32) (p2 : Int32) : Option (Int32) := ((f_X0_isWell v1 p1).bind fun x1 => (if x1 = 0 then some ((-1)) else (if p2 < 0 then some ((-1)) else (if p2 ≤ 13 then (if p2 = 13 then ((f_X0_isDry v1 p1 ((v1 0 3) + 1)).bind fun x12 => (if x12 = 0 then some 0 else some 1)) else (if p2 = 0 then (if p1 = 0 then some ((-4)) else ((ix 13 p2).bind fun j10 => ((rd 12 (v1 (6 + j10)) p1).bind fun x11 => some x11))) else ((ix 13 p2).bind fun j7 => ((rd 12 (v1 (6 + j7)) p1).bind fun x8 => some x8)))) else some ((-1))))))
noncomputable def f_X3_aboveAt (v1 : FV) (v2 : FV) (G : (Nat → FV)) (v3 : FV) (p1 : Int32) (p2 : Int32) : Option (Int32) := ((f_X0_isWell v1 p1).bind fun x1 => (if x1 = 0 then some ((-1)) else (if 0 ≤ p2 then ((f_X0_wellAbove v1 p1 p2).bind fun x4 => (if x4 = ((-1)) then some ((-4)) else some x4)) else some ((-1)))))
noncomputable def f_X3_requestAt (v1 : FV) (v2 : FV) (G : (Nat → FV)) (v3 : FV) (p1 : Int32) (p2 : Int32) : Option (Int32) := ((f_X0_isPlace v1 p1).bind fun x1 => (if x1 = 0 then some ((-1)) else (if p2 < 0 then some ((-1)) else (if p2 < 3 then ((ix 3 p2).bind fun j5 => ((rd 8 (v1 (22 + j5)) (p1 - 1)).bind fun x6 => some x6)) else some ((-1))))))
noncomputable def f_X3_count (v1 : FV) (v2 : FV) (G : (Nat → FV)) (v3 : FV) (p1 : Int32) : Option (Int32) := (if p1 = 0 then some (v1 0 0) else if p1 = 1 then some (v1 0 1) else if p1 = 2 then some (v1 0 3) else if p1 = 3 then ((f_X0_sumOf v1 4).bind fun x5 => some x5) else if p1 = 4 then ((f_X0_sumOf v1 6).bind fun x7 => some x7) else if p1 = 5 then ((f_X0_sumOf v1 7).bind fun x9 => some x9) else if p1 = 6 then ((f_X0_sumOf v1 8).bind fun x11 => ((f_X0_sumOf v1 9).bind fun x12 => some (x11 + x12))) else if p1 = 7 then ((f_X0_sumOf v1 10).bind fun x14 => some x14) else if p1 = 8 then ((f_X0_sumOf v1 11).bind fun x16 => some x16) else if p1 = 9 then ((f_X0_sumOf v1 5).bind fun x18 => some x18) else if p1 = 10 then some (v1 0 2) else if p1 = 11 then some (v1 0 4) else if p1 = 12 then ((f_X0_timeOfDay v1).bind fun x22 => some ((v1 4 0) - x22)) else if p1 = 13 then some (G 0 0 1) else if p1 = 14 then some (v3 0 0) else if p1 = 20 then some (v1 4 0) else if p1 = 21 then some (v1 4 1) else some ((-1)))
noncomputable def f_X3_keepIfDone (v1 : FV) (v2 : FV) (G : (Nat → FV)) (v3 : FV) (p1 : Int32) : Option (Int32 × (FV × FV × (Nat → FV) × FV)) := (if p1 < 0 then some (p1, (v1, v2, G, v3)) else ((f_X1_keep G).bind fun G2 => some (p1, (v1, v2, G2, v3))))
noncomputable def f_X3_well (v1 : FV) (v2 : FV) (G : (Nat → FV)) (v3 : FV) (p1 : Int32) (p2 : Int32) (p3 : Int32) (p4 : Int32) : Option (Int32 × (FV × FV × (Nat → FV) × FV)) := ((f_X1_note G v1).bind fun t1 => (b2 (f_X0_addWell t1.2 p1 p2 p3 p4) fun x2 v12 => (b2 (f_X3_keepIfDone v12 v2 t1.1 v3 x2) fun x3 t3 => some (x3, (t3.1, t3.2.1, t3.2.2.1, t3.2.2.2)))))
noncomputable def f_X3_drought (v1 : FV) (v2 : FV) (G : (Nat → FV)) (v3 : FV) (p1 : Int32) (p2 : Int32) (p3 : Int32) : Option (Int32 × (FV × FV × (Nat → FV) × FV)) := ((f_X1_note G v1).bind fun t1 => (b2 (f_X0_addDrought t1.2 p1 p2 p3) fun x2 v12 => (b2 (f_X3_keepIfDone v12 v2 t1.1 v3 x2) fun x3 t3 => some (x3, (t3.1, t3.2.1, t3.2.2.1, t3.2.2.2)))))
noncomputable def f_X3_draw (v1 : FV) (v2 : FV) (G : (Nat → FV)) (v3 : FV) (p1 : Int32) (p2 : Int32) : Option (Int32 × (FV × FV × (Nat → FV) × FV)) := ((f_X1_note G v1).bind fun t1 => (b2 (f_X0_takeDraw t1.2 p1 p2) fun x2 v12 => (b2 (f_X3_keepIfDone v12 v2 t1.1 v3 x2) fun x3 t3 => some (x3, (t3.1, t3.2.1, t3.2.2.1, t3.2.2.2)))))
noncomputable def f_X3_request (v1 : FV) (v2 : FV) (G : (Nat → FV)) (v3 : FV) (p1 : Int32) (p2 : Int32) : Option (Int32 × (FV × FV × (Nat → FV) × FV)) := ((f_X1_note G v1).bind fun t1 => (b2 (f_X0_takeRequest t1.2 p1 p2) fun x2 v12 => (b2 (f_X3_keepIfDone v12 v2 t1.1 v3 x2) fun x3 t3 => some (x3, (t3.1, t3.2.1, t3.2.2.1, t3.2.2.2)))))
noncomputable def f_X3_cancel (v1 : FV) (v2 : FV) (G : (Nat → FV)) (v3 : FV) (p1 : Int32) : Option (Int32 × (FV × FV × (Nat → FV) × FV)) := ((f_X1_note G v1).bind fun t1 => (b2 (f_X0_dropRequest t1.2 p1) fun x2 v12 => (b2 (f_X3_keepIfDone v12 v2 t1.1 v3 x2) fun x3 t3 => some (x3, (t3.1, t3.2.1, t3.2.2.1, t3.2.2.2)))))
noncomputable def f_X3_tick (v1 : FV) (v2 : FV) (G : (Nat → FV)) (v3 : FV) (p1 : Int32) : Option (Int32 × (FV × FV × (Nat → FV) × FV)) := ((f_X1_note G v1).bind fun t1 => (b2 (f_X0_passTicks t1.2 p1) fun x2 v12 => (b2 (f_X3_keepIfDone v12 v2 t1.1 v3 x2) fun x3 t3 => some (x3, (t3.1, t3.2.1, t3.2.2.1, t3.2.2.2)))))
noncomputable def f_X3_set (v1 : FV) (v2 : FV) (G : (Nat → FV)) (v3 : FV) (p1 : Int32) (p2 : Int32) : Option (Int32 × (FV × FV × (Nat → FV) × FV)) := ((f_X1_note G v1).bind fun t1 => (b2 (f_X0_changeSetting t1.2 p1 p2) fun x2 v12 => (b2 (f_X3_keepIfDone v12 v2 t1.1 v3 x2) fun x3 t3 => some (x3, (t3.1, t3.2.1, t3.2.2.1, t3.2.2.2)))))
noncomputable def f_X3_able (v1 : FV) (v2 : FV) (G : (Nat → FV)) (v3 : FV) (p1 : Int32) : Option (Int32 × (FV × FV × (Nat → FV) × FV)) := ((f_X0_isWell v1 p1).bind fun x1 => (if x1 = 0 then some ((-1), (v1, v2, G, v3)) else (b2 (f_X0_shareOut v1 p1 12000) fun x3 v13 => some (x3, (v13, v2, G, v3)))))
noncomputable def f_X3_gives (v1 : FV) (v2 : FV) (G : (Nat → FV)) (v3 : FV) (p1 : Int32) (p2 : Int32) (p3 : Int32) : Option (Int32 × (FV × FV × (Nat → FV) × FV)) := ((f_X0_isWell v1 p1).bind fun x1 => (if x1 = 0 then some ((-1), (v1, v2, G, v3)) else ((f_X3_areBuckets p2).bind fun x3 => (if x3 = 0 then some ((-1), (v1, v2, G, v3)) else ((f_X0_isWell v1 p3).bind fun x5 => (if x5 = 0 then some ((-1), (v1, v2, G, v3)) else (b2 (f_X0_shareOut v1 p1 p2) fun x7 v17 => (if x7 = p2 then ((rd 12 (v17 5) p3).bind fun x9 => some (x9, (v17, v2, G, v3))) else some ((-2), (v17, v2, G, v3))))))))))
noncomputable def f_X3_possibleIn_L33 : Nat → Int32 → Int32 → Int32 → FV → FV → (Nat → FV) → FV → Option (Int32 × (FV × FV × (Nat → FV) × FV))
  | 0 => fun _ _ _ _ _ _ _ => none
  | n + 1 => fun y1 y2 y3 v1 v2 G v3 => (if 300 < y3 then some ((-4), (v1, v2, G, v3)) else (b2 (f_X0_shareOut v2 y1 y2) fun x7 v27 => (if x7 = y2 then some (y3, (v1, v27, G, v3)) else (b2 (f_X0_passTick v27) fun x9 v29 => (f_X3_possibleIn_L33 n y1 y2 (y3 + 1) v1 v29 G v3)))))
noncomputable def f_X3_possibleIn (v1 : FV) (v2 : FV) (G : (Nat → FV)) (v3 : FV) (p1 : Int32) (p2 : Int32) : Option (Int32 × (FV × FV × (Nat → FV) × FV)) := ((f_X0_isWell v1 p1).bind fun x1 => (if x1 = 0 then some ((-1), (v1, v2, G, v3)) else ((f_X3_areBuckets p2).bind fun x3 => (if x3 = 0 then some ((-1), (v1, v2, G, v3)) else ((f_X0_copyFrom v2 v1).bind fun v25 => (f_X3_possibleIn_L33 FUEL p1 p2 0 v1 v25 G v3))))))
noncomputable def f_X3_waterIn_L37 : Nat → Int32 → Int32 → Int32 → FV → FV → (Nat → FV) → FV → Option (Int32 × (FV × FV × (Nat → FV) × FV))
  | 0 => fun _ _ _ _ _ _ _ => none
  | n + 1 => fun y1 y2 y3 v1 v2 G v3 => (if y2 ≤ y3 then ((rd 12 (v2 10) y1).bind fun x7 => some (x7, (v1, v2, G, v3))) else (b2 (f_X0_passTick v2) fun x8 v28 => (f_X3_waterIn_L37 n y1 y2 (y3 + 1) v1 v28 G v3)))
noncomputable def f_X3_waterIn (v1 : FV) (v2 : FV) (G : (Nat → FV)) (v3 : FV) (p1 : Int32) (p2 : Int32) : Option (Int32 × (FV × FV × (Nat → FV) × FV)) := ((f_X0_isWell v1 p1).bind fun x1 => (if x1 = 0 then some ((-1), (v1, v2, G, v3)) else (if p2 < 0 then some ((-1), (v1, v2, G, v3)) else (if p2 ≤ 300 then ((f_X0_copyFrom v2 v1).bind fun v25 => (f_X3_waterIn_L37 FUEL p1 p2 0 v1 v25 G v3)) else some ((-1), (v1, v2, G, v3))))))
noncomputable def f_X3_lenders (v1 : FV) (v2 : FV) (G : (Nat → FV)) (v3 : FV) : Option (Int32 × (FV × FV × (Nat → FV) × FV)) := ((f_X0_copyFrom v2 v1).bind fun v21 => (b2 (f_X0_lendAtNoon v21) fun x2 v22 => some (x2, (v1, v22, G, v3))))
noncomputable def f_X3_undo (v1 : FV) (v2 : FV) (G : (Nat → FV)) (v3 : FV) : Option (Int32 × (FV × FV × (Nat → FV) × FV)) := (if (G 0 0 1) = 0 then some ((-2), (v1, v2, G, v3)) else ((f_X1_giveBack G v1).bind fun t2 => some (t2.1 0 0 1, (t2.2, v2, t2.1, v3))))
noncomputable def f_X3_type (v1 : FV) (v2 : FV) (G : (Nat → FV)) (v3 : FV) (p1 : Int32) : Option (Int32 × (FV × FV × (Nat → FV) × FV)) := (if p1 < 32 then some ((-1), (v1, v2, G, v3)) else (if p1 ≤ 126 then (lt1 ((p1).toUInt32 % 65536).toInt32 fun x3 => (b2 (f_X2_append v3 x3) fun x4 v34 => (if x4 = 0 then some ((-3), (v1, v2, G, v34)) else some (v34 0 0, (v1, v2, G, v34))))) else some ((-1), (v1, v2, G, v3))))
noncomputable def f_X3_clearText (v1 : FV) (v2 : FV) (G : (Nat → FV)) (v3 : FV) : Option (Int32 × (FV × FV × (Nat → FV) × FV)) := (lt1 (st v3 0 0 0) fun v31 => some (v3 0 0, (v1, v2, G, v31)))
noncomputable def f_X3_fault (v1 : FV) (v2 : FV) (G : (Nat → FV)) (v3 : FV) (p1 : Int32) : Option (Int32 × (FV × FV × (Nat → FV) × FV)) := (if p1 = 0 then ((f_X0_copyFrom v2 v1).bind fun v22 => ((f_X2_runOn v22 v3).bind fun t3 => (if (t3.2 0 4) = 0 then some ((-4), (v1, t3.1, G, t3.2)) else (if p1 = 0 then some (t3.2 0 3, (v1, t3.1, G, t3.2)) else some (t3.2 0 4, (v1, t3.1, G, t3.2)))))) else (if p1 = 1 then ((f_X0_copyFrom v2 v1).bind fun v27 => ((f_X2_runOn v27 v3).bind fun t8 => (if (t8.2 0 4) = 0 then some ((-4), (v1, t8.1, G, t8.2)) else (if p1 = 0 then some (t8.2 0 3, (v1, t8.1, G, t8.2)) else some (t8.2 0 4, (v1, t8.1, G, t8.2)))))) else some ((-1), (v1, v2, G, v3))))
noncomputable def f_X3_play (v1 : FV) (v2 : FV) (G : (Nat → FV)) (v3 : FV) : Option (Int32 × (FV × FV × (Nat → FV) × FV)) := ((f_X1_note G v1).bind fun t1 => ((f_X0_copyFrom v2 t1.2).bind fun v22 => ((f_X2_runOn v22 v3).bind fun t3 => (if (t3.2 0 4) = 0 then ((f_X0_copyFrom t1.2 t3.1).bind fun v15 => (b2 (f_X3_keepIfDone v15 t3.1 t1.1 t3.2 (t3.2 0 2)) fun x6 t6 => some (x6, (t6.1, t6.2.1, t6.2.2.1, t6.2.2.2)))) else some ((-2), (t1.2, t3.1, t1.1, t3.2))))))
