/-! pure: laying and taking -/
theorem sl_jl_ap : ∀ (r U : sL) (a : Nat), U.getLast?.map Prod.fst = some a → sl_ch a r → sl_jl U r = U ++ r := by
  intro r
  induction r with
  | nil => intro U a _ _; simp [sl_jl]
  | cons p t ih =>
    intro U a hU hc
    have h2 : sl_jn U p.1 p.2 = U ++ [p] := by
      rcases sl_last U with rfl | ⟨T0, q, rfl⟩
      · cases hU
      · have : q.1 = a := by simpa using hU
        rw [sl_jn_diff (by rw [this]; exact fun z => hc.1 z.symm)]
    show sl_jl (sl_jn U p.1 p.2) t = _
    rw [ih (sl_jn U p.1 p.2) p.1 (sl_jn_last _ _ _) hc.2, h2]
    simp
theorem sl_jl_nil {ls : sL} (h : sl_ad ls) : sl_jl [] ls = ls := by
  cases ls with
  | nil => rfl
  | cons p t =>
    show sl_jl (sl_jn [] p.1 p.2) t = _
    rw [sl_jl_ap t _ p.1 (sl_jn_last _ _ _) h]
    rfl
theorem sl_ch_take : ∀ (ls : sL) (a k : Nat), sl_ch a ls → sl_ch a (ls.take k) := by
  intro ls
  induction ls with
  | nil => intro a k h; simpa using h
  | cons p t ih =>
    intro a k h
    cases k with
    | zero => exact trivial
    | succ k => exact ⟨h.1, ih _ _ h.2⟩
theorem sl_ad_take {ls : sL} {k : Nat} (h : sl_ad ls) : sl_ad (ls.take k) := by
  cases ls with
  | nil => simpa using h
  | cons p t =>
    cases k with
    | zero => exact trivial
    | succ k => exact sl_ch_take _ _ _ h
theorem sl_jn_take {ls : sL} {k : Nat} {p : Nat × Nat} (h : sl_ad ls) (hp : ls[k]? = some p) : sl_jn (ls.take k) p.1 p.2 = ls.take (k + 1) := by
  have e1 := sl_jl_nil (sl_ad_take (k := k + 1) h)
  have e2 := sl_jl_nil (sl_ad_take (k := k) h)
  rw [List.take_add_one, hp] at e1
  simp only [Option.toList, sl_jl, List.foldl_append, List.foldl_cons, List.foldl_nil] at e1
  simp only [sl_jl] at e2
  rw [e2] at e1
  rw [e1, List.take_add_one, hp]
  rfl
theorem sl_tk_ad {s : sL} {g : Nat} (h : sl_ad s) : sl_ad (sl_tk s g) := by
  cases s with
  | nil => exact trivial
  | cons p t =>
    unfold sl_tk
    split
    · trivial
    · split
      · exact sl_tk_ch _ _ _ h
      · trivial
theorem sl_hb_jl : ∀ {s T : sL}, sl_hb T → sl_hb s → sl_hb (sl_jl T s) := by
  intro s
  induction s with
  | nil => intro T h _; exact h
  | cons p t ih =>
    intro T h h2
    exact ih (sl_hb_jn h (h2 p List.mem_cons_self)) (fun q hq => h2 q (List.mem_cons_of_mem _ hq))
theorem sl_ad_jn {T : sL} {a x : Nat} (h : sl_ad T) : sl_ad (sl_jn T a x) := by
  have key : ∀ (T0 : sL) (c : Nat) (q : Nat × Nat), sl_ch c (T0 ++ [q]) → (q.1 = a → sl_ch c (T0 ++ [(a, q.2 + x)])) ∧ (¬ q.1 = a → sl_ch c ((T0 ++ [q]) ++ [(a, x)])) := by
    intro T0
    induction T0 with
    | nil => intro c q h; exact ⟨fun e => ⟨by rw [← e]; exact h.1, trivial⟩, fun e => ⟨h.1, fun z => e z.symm, trivial⟩⟩
    | cons r t ih => intro c q h; exact ⟨fun e => ⟨h.1, (ih _ _ h.2).1 e⟩, fun e => ⟨h.1, (ih _ _ h.2).2 e⟩⟩
  rcases sl_last T with rfl | ⟨T0, q, rfl⟩
  · exact trivial
  · cases T0 with
    | nil =>
      by_cases e : q.1 = a
      · rw [sl_jn_same e]; exact trivial
      · rw [sl_jn_diff e]; exact ⟨fun z => e z.symm, trivial⟩
    | cons r t =>
      by_cases e : q.1 = a
      · rw [sl_jn_same e]; exact (key t _ q h).1 e
      · rw [sl_jn_diff e]; exact (key t _ q h).2 e
theorem sl_ad_jl : ∀ {s T : sL}, sl_ad T → sl_ad (sl_jl T s) := by
  intro s
  induction s with
  | nil => intro T h; exact h
  | cons p t ih => intro T h; exact ih (sl_ad_jn h)
theorem sl_ch_ad {a : Nat} {s : sL} (h : sl_ch a s) : sl_ad s := by
  cases s with
  | nil => trivial
  | cons p t => exact h.2
theorem sl_ad_rs : ∀ {s : sL} {g : Nat}, sl_ad s → sl_ad (sl_rs s g) := by
  intro s
  induction s with
  | nil => intro g h; exact h
  | cons p t ih =>
    intro g h
    unfold sl_rs
    split
    · exact ih (sl_ch_ad h)
    · exact h
def sl_g1 (ls : sL) : Prop := ∀ p ∈ ls, 1 ≤ p.2
theorem sl_g1_jn {T : sL} {a x : Nat} (h : sl_g1 T) (hx : 1 ≤ x) : sl_g1 (sl_jn T a x) := by
  intro p hp
  rcases sl_last T with rfl | ⟨T0, q, rfl⟩
  · rw [sl_jn_nil] at hp; simp at hp; subst hp; exact hx
  · by_cases hq : q.1 = a
    · rw [sl_jn_same hq] at hp
      rcases List.mem_append.mp hp with hp | hp
      · exact h p (List.mem_append_left _ hp)
      · simp at hp; subst hp; show 1 ≤ q.2 + x; omega
    · rw [sl_jn_diff hq] at hp
      rcases List.mem_append.mp hp with hp | hp
      · exact h p hp
      · simp at hp; subst hp; exact hx
theorem sl_g1_jl : ∀ {s T : sL}, sl_g1 T → sl_g1 s → sl_g1 (sl_jl T s) := by
  intro s
  induction s with
  | nil => intro T h _; exact h
  | cons p t ih =>
    intro T h h2
    exact ih (sl_g1_jn h (h2 p List.mem_cons_self)) (fun q hq => h2 q (List.mem_cons_of_mem _ hq))
theorem sl_g1_tk : ∀ {s : sL} {g : Nat}, sl_g1 s → sl_g1 (sl_tk s g) := by
  intro s
  induction s with
  | nil => intro g h; exact h
  | cons p t ih =>
    intro g h
    unfold sl_tk
    split
    · intro q hq; cases hq
    · split
      · intro q hq
        rcases List.mem_cons.mp hq with rfl | hq
        · exact h _ List.mem_cons_self
        · exact ih (fun r hr => h r (List.mem_cons_of_mem _ hr)) q hq
      · intro q hq
        simp at hq
        subst hq
        show 1 ≤ g
        omega
theorem sl_g1_rs : ∀ {s : sL} {g : Nat}, sl_g1 s → sl_g1 (sl_rs s g) := by
  intro s
  induction s with
  | nil => intro g h; exact h
  | cons p t ih =>
    intro g h
    unfold sl_rs
    split
    · exact ih (fun r hr => h r (List.mem_cons_of_mem _ hr))
    · intro q hq
      rcases List.mem_cons.mp hq with rfl | hq
      · show 1 ≤ p.2 - g; omega
      · exact h q (List.mem_cons_of_mem _ hq)
theorem sl_rs_len : ∀ (s : sL) (g : Nat), (sl_rs s g).length ≤ s.length := by
  intro s
  induction s with
  | nil => intro g; exact Nat.le_refl _
  | cons p t ih =>
    intro g
    unfold sl_rs
    split
    · have := ih (g - p.2); simp; omega
    · simp
theorem sl_of_nil (h : Nat) : sl_of [] h = 0 := rfl
theorem sl_of_cons (p : Nat × Nat) (t : sL) (h : Nat) : sl_of (p :: t) h = (if p.1 = h then p.2 else 0) + sl_of t h := by simp [sl_of]
theorem sl_of_app (s t : sL) (h : Nat) : sl_of (s ++ t) h = sl_of s h + sl_of t h := by simp [sl_of]
theorem sl_of_jn (T : sL) (a x h : Nat) : sl_of (sl_jn T a x) h = sl_of T h + if a = h then x else 0 := by
  rcases sl_last T with rfl | ⟨T0, q, rfl⟩
  · rw [sl_jn_nil, sl_of_cons, sl_of_nil]; simp
  · by_cases e : q.1 = a
    · rw [sl_jn_same e, sl_of_app, sl_of_app, sl_of_cons, sl_of_cons, sl_of_nil, e]
      show _ + ((if a = h then q.2 + x else 0) + 0) = _
      split <;> omega
    · rw [sl_jn_diff e, sl_of_app (T0 ++ [q]), sl_of_cons, sl_of_nil]; rfl
theorem sl_of_jl : ∀ (s T : sL) (h : Nat), sl_of (sl_jl T s) h = sl_of T h + sl_of s h := by
  intro s
  induction s with
  | nil => intro T h; rfl
  | cons p t ih =>
    intro T h
    show sl_of (sl_jl (sl_jn T p.1 p.2) t) h = _
    rw [ih, sl_of_jn, sl_of_cons]; omega
theorem sl_of_tr : ∀ (s : sL) (g h : Nat), sl_of (sl_tk s g) h + sl_of (sl_rs s g) h = sl_of s h := by
  intro s
  induction s with
  | nil => intro g h; rfl
  | cons p t ih =>
    intro g h
    unfold sl_tk sl_rs
    by_cases e0 : g = 0
    · rw [if_pos e0]
      subst e0
      by_cases e1 : p.2 ≤ 0
      · rw [if_pos e1]
        have := ih (0 - p.2) h
        rw [show 0 - p.2 = 0 by omega, sl_tk_0] at this
        rw [show 0 - p.2 = 0 by omega, sl_of_cons, show p.2 = 0 by omega, sl_of_nil]
        rw [sl_of_nil] at this
        split <;> omega
      · rw [if_neg e1, sl_of_nil, sl_of_cons, sl_of_cons]
        show 0 + ((if p.1 = h then p.2 - 0 else 0) + sl_of t h) = _
        split <;> omega
    · rw [if_neg e0]
      by_cases e1 : p.2 < g
      · rw [if_pos e1, if_pos (by omega), sl_of_cons, sl_of_cons]
        have := ih (g - p.2) h
        omega
      · rw [if_neg e1]
        by_cases e2 : p.2 ≤ g
        · rw [if_pos e2, show g - p.2 = 0 by omega, sl_of_cons, sl_of_cons, sl_of_nil]
          have := ih 0 h
          rw [sl_tk_0, sl_of_nil] at this
          show (if p.1 = h then g else 0) + 0 + _ = _
          rw [show g = p.2 by omega]
          omega
        · rw [if_neg e2, sl_of_cons, sl_of_cons, sl_of_cons, sl_of_nil]
          show (if p.1 = h then g else 0) + 0 + ((if p.1 = h then p.2 - g else 0) + sl_of t h) = _
          split <;> omega
theorem sl_of_mem {ls : sL} {p : Nat × Nat} (h : p ∈ ls) : p.2 ≤ sl_of ls p.1 := by
  induction ls with
  | nil => cases h
  | cons q t ih =>
    rw [sl_of_cons]
    rcases List.mem_cons.mp h with rfl | h
    · rw [if_pos rfl]; omega
    · have := ih h; omega
theorem into_no {ts : List sT} {b f : Int32} {g : Int64} (h : ∀ p q, fnd ts b = some p → fnd ts f = some q → ¬ into_c p q g) : into_s ts b f g = (nI 0, ts) := by
  unfold into_s
  split
  · rfl
  · split
    · rfl
    · exact if_neg (h _ _ (by assumption) (by assumption))
theorem into_yes {ts : List sT} {b f : Int32} {g : Int64} {p q : Nat × sT} (h1 : fnd ts b = some p) (h2 : fnd ts f = some q) (h : into_c p q g) : into_s ts b f g = (nI 1, (ts.set p.1 (t_setW (t_setL p.2 (sl_jl (t_ls p.2) (sl_tk (t_ls q.2) (gN g)))) (max (t_warm p.2) (t_warm q.2)))).set q.1 (t_setL q.2 (sl_rs (t_ls q.2) (gN g)))) := by
  unfold into_s
  rw [h1, h2]
  exact if_pos h
theorem box_no {ts : List sT} {f c : Int32} {g : Int64} (h : ∀ q, fnd ts f = some q → ¬ box_c ts q g c) : box_s ts f g c = (-1, ts) := by
  unfold box_s
  split
  · rfl
  · exact if_neg (h _ (by assumption))
theorem box_yes {ts : List sT} {f c : Int32} {g : Int64} {q : Nat × sT} (h1 : fnd ts f = some q) (h : box_c ts q g c) : box_s ts f g c = (nI ts.length, (ts.set q.1 (t_setL q.2 (sl_rs (t_ls q.2) (gN g)))) ++ [(3, c.toNatClampNeg, 0, 0, 0, 0, t_warm q.2, sl_jl [] (sl_tk (t_ls q.2) (gN g)))]) := by
  unfold box_s
  rw [h1]
  exact if_pos h
abbrev waste_c (p : Nat × sT) (g : Int64) : Prop := lN 1 ≤ g ∧ g ≤ lN (sl_tot (t_ls p.2))
theorem waste_no {ts : List sT} {x : Int32} {g : Int64} (h : ∀ p, fnd ts x = some p → ¬ waste_c p g) : waste_s ts x g = (-1, ts) := by
  unfold waste_s
  split
  · rfl
  · exact if_neg (h _ (by assumption))
theorem waste_yes {ts : List sT} {x : Int32} {g : Int64} {p : Nat × sT} (h1 : fnd ts x = some p) (h : waste_c p g) : waste_s ts x g = (lN (t_lost p.2 + gN g), ts.set p.1 (t_setX (t_setL p.2 (sl_rs (t_ls p.2) (gN g))) (t_lost p.2 + gN g))) := by
  unfold waste_s
  rw [h1]
  exact if_pos h
abbrev corr_c (p : Nat × sT) (g : Int64) : Prop := t_kind p.2 = 1 ∧ (lN 1 ≤ g ∧ g ≤ lN 1000000000) ∧ t_told p.2 ≤ sl_tot (t_ls p.2) + gN g
theorem corr_no {ts : List sT} {x : Int32} {g : Int64} (h : ∀ p, fnd ts x = some p → ¬ corr_c p g) : correct_s ts x g = (nI 0, ts) := by
  unfold correct_s
  split
  · rfl
  · exact if_neg (h _ (by assumption))
theorem corr_yes {ts : List sT} {x : Int32} {g : Int64} {p : Nat × sT} (h1 : fnd ts x = some p) (h : corr_c p g) : correct_s ts x g = (nI 1, ts.set p.1 (t_setG (t_setL p.2 (if sl_tot (t_ls p.2) + gN g - t_told p.2 = 0 then [] else [(p.1, sl_tot (t_ls p.2) + gN g - t_told p.2)])) (gN g))) := by
  unfold correct_s
  rw [h1]
  exact if_pos h
