/-! THE JUDGEMENT: ev_Run: from this place of a method, over this abstract heap, the machine comes to the method's end with P.
An abstract heap: a cell for an address. A cell: an array (place of its type in ev_tys, length, contents) or an object (number in vwCl, fields). -/
abbrev xE : Type := (Nat × vp_A) ⊕ (Nat × List Value)
abbrev xH : Type := Nat → Option xE
abbrev xG : Type := va_G × List (ClassId × FieldType) × Nat × Nat × Nat × (Nat → Int32) × Cell
abbrev xD (G : xG) : va_G := G.1
abbrev xTy (G : xG) : List (ClassId × FieldType) := G.2.1
abbrev xB (G : xG) : Nat := G.2.2.1
abbrev xb (G : xG) : Nat := G.2.2.2.1
abbrev xN (G : xG) : Nat := G.2.2.2.2.1
abbrev xX (G : xG) : Nat → Int32 := G.2.2.2.2.2.1
abbrev xS (G : xG) : Cell := G.2.2.2.2.2.2
def ev_T : List Cond := lw_tbl.filter goodWord
theorem ev_T_in : ∀ w ∈ ev_T, w ∈ lw_tbl := fun _ h => (List.mem_filter.mp h).1
theorem ev_T_good : ∀ w ∈ ev_T, (w.onTables && w.keeps) = true ∨ ∃ ty, w = .arrayClass ty := fun _ h => good_of_word (List.mem_filter.mp h).2
abbrev ev_ws (M : xM) : List Cond := .code M.1 M.2.1 M.2.2.1 M.2.2.2 :: ev_T
/-! heaps -/
def hp_cell (G : xG) (a : Nat) (e : xE) (H : Heap) : Prop := match e with
  | .inl x => ∃ q : ClassId × FieldType, (xTy G)[x.1]? = some q ∧ H[a]? = some (vp_cell q.1 x.2)
  | .inr o => va_at (xD G) vwCl (a, .inr o) H
def hp_R (G : xG) (h : xH) (n : Nat) (H : Heap) : Prop := H.size = n ∧ xB G ≤ n ∧ H[xb G]? = some (xS G) ∧ ∀ (a : Nat) (e : xE), h a = some e → xB G ≤ a ∧ hp_cell G a e H
def hp_set (h : xH) (a : Nat) (e : xE) : xH := fun q => if q = a then some e else h q
theorem hp_set_self (h : xH) (a : Nat) (e : xE) : hp_set h a e a = some e := if_pos rfl
theorem hp_set_ne (h : xH) {a b : Nat} (e : xE) (hb : b ≠ a) : hp_set h a e b = h b := if_neg hb
theorem hp_set_set (h : xH) (a : Nat) (e e' : xE) : hp_set (hp_set h a e) a e' = hp_set h a e' := by
  funext q
  unfold hp_set
  by_cases hq : q = a <;> simp [hq]
theorem hp_set_comm (h : xH) {a b : Nat} (e e' : xE) (hab : a ≠ b) : hp_set (hp_set h a e) b e' = hp_set (hp_set h b e') a e := by
  funext q
  unfold hp_set
  by_cases hq : q = a
  · subst hq
    simp [hab]
  · simp [hq]
theorem hp_set_eta (h : xH) {a : Nat} {e : xE} (ha : h a = some e) : hp_set h a e = h := by
  funext q
  unfold hp_set
  by_cases hq : q = a
  · subst hq
    simp [ha]
  · simp [hq]
theorem hp_cell.kept {G : xG} {a : Nat} {e : xE} {H H1 : Heap} (h : hp_cell G a e H) (hq : H1[a]? = H[a]?) : hp_cell G a e H1 := by
  cases e with
  | inl x =>
    obtain ⟨q, h1, h2⟩ := h
    exact ⟨q, h1, hq.trans h2⟩
  | inr o => exact va_at.kept (q := (a, .inr o)) h hq
theorem hp_cell.lt {G : xG} {a : Nat} {e : xE} {H : Heap} (h : hp_cell G a e H) : a < H.size := by
  cases e with
  | inl x =>
    obtain ⟨q, h1, h2⟩ := h
    exact (Array.getElem?_eq_some_iff.mp h2).1
  | inr o => exact va_at.lt (q := (a, .inr o)) h
theorem hp_R.put {G : xG} {h : xH} {n : Nat} {H H1 : Heap} {a : Nat} {e : xE} (hR : hp_R G h n H) (ha : xB G ≤ a) (hb : xb G < xB G) (z : H1.size = H.size) (oq : ∀ q : Nat, q ≠ a → H1[q]? = H[q]?) (he : hp_cell G a e H1) : hp_R G (hp_set h a e) n H1 := by
  refine ⟨z.trans hR.1, hR.2.1, (oq _ (by omega)).trans hR.2.2.1, fun b e' hb' => ?_⟩
  by_cases hq : b = a
  · subst hq
    rw [hp_set_self] at hb'
    cases hb'
    exact ⟨ha, he⟩
  · rw [hp_set_ne _ _ hq] at hb'
    obtain ⟨h1, h2⟩ := hR.2.2.2 b e' hb'
    exact ⟨h1, h2.kept (oq b hq)⟩
theorem hp_R.push {G : xG} {h : xH} {n : Nat} {H H1 : Heap} {e : xE} (hR : hp_R G h n H) (hb : xb G < xB G) (z : H1.size = n + 1) (oq : ∀ q : Nat, q < n → H1[q]? = H[q]?) (he : hp_cell G n e H1) : hp_R G (hp_set h n e) (n + 1) H1 := by
  refine ⟨z, Nat.le_succ_of_le hR.2.1, (oq _ (Nat.lt_of_lt_of_le hb hR.2.1)).trans hR.2.2.1, fun b e' hb' => ?_⟩
  by_cases hq : b = n
  · subst hq
    rw [hp_set_self] at hb'
    cases hb'
    exact ⟨hR.2.1, he⟩
  · rw [hp_set_ne _ _ hq] at hb'
    obtain ⟨h1, h2⟩ := hR.2.2.2 b e' hb'
    exact ⟨h1, h2.kept (oq b (by have := h2.lt; rw [hR.1] at this; exact this))⟩
theorem hp_R.lt {G : xG} {h : xH} {n : Nat} {H : Heap} {a : Nat} {e : xE} (hR : hp_R G h n H) (ha : h a = some e) : a < n := by
  have := (hR.2.2.2 a e ha).2.lt
  rw [hR.1] at this
  exact this
/-! what holds of the tables at a method's start -/
def ev_K (G : xG) (U : State) : Prop := va_K (xD G) vwCl (xTy G) U ∧ (∀ q ∈ ev_nm, va_Nw (.methodLinkNest q.1 q.2.1 q.2.2.1 q.2.2.2) U) ∧ (∀ C ∈ ev_ao, va_AO C U) ∧ U.isArrayOf (xS G) .int ∧ (xS G).vm ≠ .unknown ∧ (xS G).slots.size = xN G ∧ (∀ j : Nat, j < xN G → (xS G).slots[j]? = some (.int (xX G j))) ∧ xb G < xB G ∧ (xTy G).map Prod.snd = ev_tys
theorem ev_K.warm {G : xG} {s U : State} (hW : s.WarmedH U.vm) (h : ev_K G s) : ev_K G U := ⟨va_K.moved hW.alike h.1, fun q hq => va_Nw.warmM hW (h.2.1 q hq), fun C hC => va_AO.moved hW.alike (h.2.2.1 C hC), State.isArrayOf_alike hW.alike h.2.2.2.1, h.2.2.2.2⟩
theorem ev_K.same {G : xG} {s U : State} (hv : s.vm = U.vm) (h : ev_K G s) : ev_K G U := ⟨va_K.moved (by rw [hv]; exact Vm.Alike.refl _) h.1, fun q hq => va_Nw.same rfl hv (h.2.1 q hq), fun C hC => va_AO.moved (by rw [hv]; exact Vm.Alike.refl _) (h.2.2.1 C hC), State.isArrayOf_alike (by rw [hv]; exact Vm.Alike.refl _) h.2.2.2.1, h.2.2.2.2⟩
/-! locals -/
def ev_LR (ls : Array Slot) (nL : Nat) (L : List (Option Value)) : Prop := ls.size = nL ∧ lv_wf ls ∧ ∀ (i : Nat) (v : Value), L[i]? = some (some v) → ls[i]? = some (.val v)
def ev_lv (L : List (Option Value)) : List (Nat × Value) := (List.range L.length).filterMap (fun i => match L[i]? with
  | some (some v) => some (i, v)
  | _ => none)
theorem ev_lv_mem {L : List (Option Value)} {q : Nat × Value} : q ∈ ev_lv L ↔ L[q.1]? = some (some q.2) := by
  unfold ev_lv
  rw [List.mem_filterMap]
  constructor
  · rintro ⟨i, -, hi⟩
    revert hi
    split
    · rename_i v hv
      intro hi
      cases hi
      exact hv
    · intro hi
      cases hi
  · intro hq
    refine ⟨q.1, List.mem_range.mpr (List.getElem?_eq_some_iff.mp hq).1, ?_⟩
    rw [hq]
theorem ev_LR.has {ls : Array Slot} {nL : Nat} {L : List (Option Value)} (h : ev_LR ls nL L) : lv_has ls nL (ev_lv L) := ⟨h.1, h.2.1, fun q hq => h.2.2 _ _ (ev_lv_mem.mp hq)⟩
def ev_lo (o : Option Value) : Option Value := match o with
  | some (.long _) => none
  | some (.double _) => none
  | x => x
def ev_nx : List (Option Value) → List (Option Value)
  | [] => []
  | _ :: t => none :: t
def ev_st1 : List (Option Value) → Nat → Value → List (Option Value)
  | [], _, _ => []
  | _ :: t, 0, v => some v :: t
  | o :: t, 1, v => ev_lo o :: ev_st1 t 0 v
  | o :: t, i + 2, v => o :: ev_st1 t (i + 1) v
def ev_st2 : List (Option Value) → Nat → Value → List (Option Value)
  | [], _, _ => []
  | _ :: t, 0, v => some v :: ev_nx t
  | o :: t, 1, v => ev_lo o :: ev_st2 t 0 v
  | o :: t, i + 2, v => o :: ev_st2 t (i + 1) v
theorem ev_lo_some {o : Option Value} {w : Value} (h : ev_lo o = some w) : o = some w ∧ ¬ w.category = 2 := by
  cases o with
  | none => cases h
  | some x => cases x <;> simp [ev_lo] at h <;> (subst h; simp [Value.category])
theorem ev_st1_get : ∀ (L : List (Option Value)) (i : Nat) (v : Value) (j : Nat) (w : Value), (ev_st1 L i v)[j]? = some (some w) → (j = i ∧ w = v) ∨ (L[j]? = some (some w) ∧ j ≠ i ∧ ¬ (j + 1 = i ∧ w.category = 2)) := by
  intro L
  induction L with
  | nil => intro i v j w h; simp [ev_st1] at h
  | cons o t ih =>
    intro i v j w h
    match i with
    | 0 =>
      cases j with
      | zero => simp [ev_st1] at h; exact Or.inl ⟨rfl, h.symm⟩
      | succ j => simp [ev_st1] at h; exact Or.inr ⟨by simpa using h, by omega, by omega⟩
    | 1 =>
      cases j with
      | zero =>
        simp [ev_st1] at h
        obtain ⟨h1, h2⟩ := ev_lo_some h
        exact Or.inr ⟨by simp [h1], by omega, fun q => h2 q.2⟩
      | succ j =>
        simp [ev_st1] at h
        rcases ih 0 v j w h with ⟨h1, h2⟩ | ⟨h1, h2, h3⟩
        · exact Or.inl ⟨by omega, h2⟩
        · exact Or.inr ⟨by simpa using h1, by omega, by omega⟩
    | i + 2 =>
      cases j with
      | zero => simp [ev_st1] at h; exact Or.inr ⟨by simp [h], by omega, by omega⟩
      | succ j =>
        simp [ev_st1] at h
        rcases ih (i + 1) v j w h with ⟨h1, h2⟩ | ⟨h1, h2, h3⟩
        · exact Or.inl ⟨by omega, h2⟩
        · exact Or.inr ⟨by simpa using h1, by omega, fun q => h3 ⟨by omega, q.2⟩⟩
theorem ev_st2_get : ∀ (L : List (Option Value)) (i : Nat) (v : Value) (j : Nat) (w : Value), (ev_st2 L i v)[j]? = some (some w) → (j = i ∧ w = v) ∨ (L[j]? = some (some w) ∧ j ≠ i ∧ j ≠ i + 1 ∧ ¬ (j + 1 = i ∧ w.category = 2)) := by
  intro L
  induction L with
  | nil => intro i v j w h; simp [ev_st2] at h
  | cons o t ih =>
    intro i v j w h
    match i with
    | 0 =>
      cases j with
      | zero => simp [ev_st2] at h; exact Or.inl ⟨rfl, h.symm⟩
      | succ j =>
        cases t with
        | nil => simp [ev_st2, ev_nx] at h
        | cons o2 t2 =>
          cases j with
          | zero => simp [ev_st2, ev_nx] at h
          | succ j => simp [ev_st2, ev_nx] at h; exact Or.inr ⟨by simpa using h, by omega, by omega, by omega⟩
    | 1 =>
      cases j with
      | zero =>
        simp [ev_st2] at h
        obtain ⟨h1, h2⟩ := ev_lo_some h
        exact Or.inr ⟨by simp [h1], by omega, by omega, fun q => h2 q.2⟩
      | succ j =>
        simp [ev_st2] at h
        rcases ih 0 v j w h with ⟨h1, h2⟩ | ⟨h1, h2, h3, h4⟩
        · exact Or.inl ⟨by omega, h2⟩
        · exact Or.inr ⟨by simpa using h1, by omega, by omega, by omega⟩
    | i + 2 =>
      cases j with
      | zero => simp [ev_st2] at h; exact Or.inr ⟨by simp [h], by omega, by omega, by omega⟩
      | succ j =>
        simp [ev_st2] at h
        rcases ih (i + 1) v j w h with ⟨h1, h2⟩ | ⟨h1, h2, h3, h4⟩
        · exact Or.inl ⟨by omega, h2⟩
        · exact Or.inr ⟨by simpa using h1, by omega, by omega, fun q => h4 ⟨by omega, q.2⟩⟩
theorem ev_LR.st1 {ls' : Array Slot} {nL i : Nat} {L : List (Option Value)} {v : Value} (h' : lv_has ls' nL ((i, v) :: (ev_lv L).filter (fun q => !(q.1 == i) && !(q.1 + 1 == i && q.2.category == 2)))) : ev_LR ls' nL (ev_st1 L i v) := by
  refine ⟨h'.1, h'.2.1, fun j w hj => ?_⟩
  rcases ev_st1_get L i v j w hj with ⟨rfl, rfl⟩ | ⟨h1, h2, h3⟩
  · exact h'.2.2 (j, w) List.mem_cons_self
  · refine h'.2.2 (j, w) (List.mem_cons_of_mem _ (List.mem_filter.mpr ⟨ev_lv_mem.mpr h1, ?_⟩))
    simp only [Bool.and_eq_true, Bool.not_eq_true', beq_eq_false_iff_ne, Bool.and_eq_false_iff]
    refine ⟨h2, ?_⟩
    by_cases hq : j + 1 = i
    · exact Or.inr (fun z => h3 ⟨hq, z⟩)
    · exact Or.inl hq
theorem ev_LR.st2 {ls' : Array Slot} {nL i : Nat} {L : List (Option Value)} {v : Value} (h' : lv_has ls' nL ((i, v) :: (ev_lv L).filter (fun q => !(q.1 == i) && (!(q.1 == i + 1) && !(q.1 + 1 == i && q.2.category == 2))))) : ev_LR ls' nL (ev_st2 L i v) := by
  refine ⟨h'.1, h'.2.1, fun j w hj => ?_⟩
  rcases ev_st2_get L i v j w hj with ⟨rfl, rfl⟩ | ⟨h1, h2, h3, h4⟩
  · exact h'.2.2 (j, w) List.mem_cons_self
  · refine h'.2.2 (j, w) (List.mem_cons_of_mem _ (List.mem_filter.mpr ⟨ev_lv_mem.mpr h1, ?_⟩))
    simp only [Bool.and_eq_true, Bool.not_eq_true', beq_eq_false_iff_ne, Bool.and_eq_false_iff]
    refine ⟨h2, h3, ?_⟩
    by_cases hq : j + 1 = i
    · exact Or.inr (fun z => h4 ⟨hq, z⟩)
    · exact Or.inl hq
/-- the locals with which a method begins -/
def ev_ent : List Value → List (Option Value)
  | [] => []
  | v :: t => if v.category = 2 then some v :: none :: ev_ent t else some v :: ev_ent t
theorem ev_ent_get : ∀ (vs : List Value) (k j : Nat) (w : Value), (ev_ent vs)[j]? = some (some w) → (k + j, w) ∈ lv_args k vs := by
  intro vs
  induction vs with
  | nil => intro k j w h; simp [ev_ent] at h
  | cons v t ih =>
    intro k j w h
    unfold ev_ent at h
    unfold lv_args
    by_cases hc : v.category = 2
    · rw [if_pos hc] at h
      rw [if_pos hc]
      match j with
      | 0 => simp at h; subst h; exact List.mem_cons_self
      | 1 => simp at h
      | j + 2 =>
        simp at h
        have := ih (k + 2) j w h
        rw [show k + 2 + j = k + (j + 2) by omega] at this
        exact List.mem_cons_of_mem _ this
    · rw [if_neg hc] at h
      rw [if_neg hc]
      match j with
      | 0 => simp at h; subst h; exact List.mem_cons_self
      | j + 1 =>
        simp at h
        have := ih (k + 1) j w h
        rw [show k + 1 + j = k + (j + 1) by omega] at this
        exact List.mem_cons_of_mem _ this
theorem ev_LR.ent {vs : List Value} {n : Nat} (h : (lg_sl vs).length ≤ n) (m : Nat) : ev_LR ((lg_sl vs ++ List.replicate (n - (lg_sl vs).length) Slot.unset).toArray) n (ev_ent vs ++ List.replicate m none) := by
  have h1 := lv_entry vs h
  refine ⟨h1.1, h1.2.1, fun j w hj => ?_⟩
  by_cases hl : j < (ev_ent vs).length
  · rw [List.getElem?_append_left hl] at hj
    have := ev_ent_get vs 0 j w hj
    rw [Nat.zero_add] at this
    exact h1.2.2 _ this
  · rw [List.getElem?_append_right (by omega), List.getElem?_replicate] at hj
    split at hj
    · cases hj
    · cases hj
