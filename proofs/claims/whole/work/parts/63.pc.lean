/-! pure: counting -/
theorem nI_dec {a : Nat} (h : 1 ≤ a) : nI a + Int32.ofInt (-1) = nI (a - 1) := by
  obtain ⟨c, rfl⟩ : ∃ c, a = c + 1 := ⟨a - 1, by omega⟩
  rw [Nat.add_sub_cancel, show (Int32.ofInt (-1)) = -nI 1 from by decide, ← Int32.sub_eq_add_neg]
  exact nI_pred c
abbrev cnt (p : Nat → Bool) (j : Nat) : Nat := ((List.range j).filter p).length
theorem cnt_succ (p : Nat → Bool) (j : Nat) : cnt p (j + 1) = cnt p j + (if p j then 1 else 0) := rf_succ p j
theorem rf_ext {p : Nat → Bool} {N : Nat} : ∀ e, (∀ c, N ≤ c → p c = false) → (List.range (N + e)).filter p = (List.range N).filter p := by
  intro e
  induction e with
  | zero => intro _; rfl
  | succ e ih =>
    intro h
    rw [show N + (e + 1) = N + e + 1 from rfl, List.range_succ, List.filter_append, ih h]
    simp [h (N + e) (by omega)]
theorem rf_100 {p : Nat → Bool} {N : Nat} (hN : N ≤ 100) (h : ∀ c, N ≤ c → p c = false) : (List.range 100).filter p = (List.range N).filter p := by
  have := rf_ext (p := p) (N := N) (100 - N) h
  rw [show N + (100 - N) = 100 by omega] at this
  exact this
theorem pick_no {p : Nat → Bool} {N m : Nat} (hN : N ≤ 100) (hm : m < 2 ^ 31) (h : cnt p N ≤ m) : pick_l ((List.range N).filter p) (nI m) = -1 :=
  pick_l_none (fun k hk z => by
    have h1 : ((List.range N).filter p).length ≤ N := rf_len p N
    have := (nI_eq (by omega) hm).mp z.symm
    have h2 : cnt p N = ((List.range N).filter p).length := rfl
    omega)
theorem pick_yes {p : Nat → Bool} {N j : Nat} (hN : N ≤ 100) (hj : j < N) (hp : p j = true) : pick_l ((List.range N).filter p) (nI (cnt p j)) = nI j :=
  pick_l_some (by have := rf_len p j; show ((List.range j).filter p).length < _; omega) (rf_get hj hp)
theorem pick_neg {l : List Nat} {x : Int32} (h : x < 0) : pick_l l x = -1 := if_pos h
theorem share_no {ts : List sT} {x y w : Int32} (h : ∀ p q, fnd ts x = some p → fnd ts y = some q → ¬ (t_kind q.2 = 1 ∧ shr_c p w)) : share_s ts x y w = -1 := by
  unfold share_s
  split
  · rfl
  · split
    · rfl
    · exact if_neg (h _ _ (by assumption) (by assumption))
theorem share_yes {ts : List sT} {x y w : Int32} {p q : Nat × sT} (h1 : fnd ts x = some p) (h2 : fnd ts y = some q) (h : t_kind q.2 = 1 ∧ shr_c p w) : share_s ts x y w = if w = nI 0 then lN (sl_of (t_ls p.2) q.1 / Nat.gcd (sl_tot (t_ls p.2)) (sl_of (t_ls p.2) q.1)) else lN (sl_tot (t_ls p.2) / Nat.gcd (sl_tot (t_ls p.2)) (sl_of (t_ls p.2) q.1)) := by
  unfold share_s
  rw [h1, h2]
  exact if_pos h
theorem tot_0 {ls : sL} (hb : sl_gb ls) (h : 1 ≤ ls.length) : 1 ≤ sl_tot ls := by
  cases ls with
  | nil => simp at h
  | cons p t =>
    have := hb p List.mem_cons_self
    simp [sl_tot]
    omega
theorem back_none {ts : List sT} {x k : Int32} (h : fnd ts x = none) : back_s ts x k = -1 := by unfold back_s; rw [h]
theorem back_some {ts : List sT} {x k : Int32} {i : Nat} {t : sT} (h : fnd ts x = some (i, t)) (hI : Iv ts) : back_s ts x k = pick_l ((List.range ts.length).filter (fun k => decide (0 < sl_of (t_ls t) k))) k := by
  unfold back_s
  rw [h]
  show pick_l _ k = _
  rw [rf_100 (N := ts.length) (by have := hI.1; omega) (fun c hc => ?_)]
  have := hI.of0 (List.mem_of_getElem? (fnd_at h)) hc
  simp only [] at this
  simp [this]
theorem recall_no {ts : List sT} {x : Int32} (h : ∀ i t, fnd ts x = some (i, t) → ¬ t_kind t = 1) : recall_s ts x = -1 := by
  unfold recall_s; cases hq : fnd ts x with
  | none => rfl
  | some p => exact if_neg (h p.1 p.2 hq)
theorem recall_yes {ts : List sT} {x : Int32} {i : Nat} {t : sT} (h : fnd ts x = some (i, t)) (h1 : t_kind t = 1) : recall_s ts x = nI (cnt (fun c => decide (1 ≤ bx_n ts c i)) 100) := by
  unfold recall_s
  rw [h]
  exact if_pos h1
theorem recalled_no {ts : List sT} {x k : Int32} (h : ∀ i t, fnd ts x = some (i, t) → ¬ t_kind t = 1) : recalled_s ts x k = -1 := by
  unfold recalled_s; cases hq : fnd ts x with
  | none => rfl
  | some p => exact if_neg (h p.1 p.2 hq)
theorem recalled_yes {ts : List sT} {x k : Int32} {i : Nat} {t : sT} (h : fnd ts x = some (i, t)) (h1 : t_kind t = 1) : recalled_s ts x k = pick_l ((List.range 100).filter (fun c => decide (0 < bx_n ts c i))) k := by
  unfold recalled_s
  rw [h]
  exact if_pos h1
theorem dbl_yes {ts : List sT} {j c : Nat} {t : sT} (h : ts[j]? = some t) (h1 : t_kind t = 1) (hc : c < 100) (h2 : 2 ≤ bx_n ts c j) : dbl ts j = true := by
  unfold dbl
  rw [h]
  refine decide_eq_true ⟨h1, ?_⟩
  exact List.length_pos_of_mem (List.mem_filter.mpr ⟨List.mem_range.mpr hc, decide_eq_true h2⟩)
theorem dbl_no {ts : List sT} {j : Nat} {t : sT} (h : ts[j]? = some t) (h2 : t_kind t = 1 → ∀ c, c < 100 → ¬ 2 ≤ bx_n ts c j) : dbl ts j = false := by
  unfold dbl
  rw [h]
  refine decide_eq_false (fun z => ?_)
  obtain ⟨c, hc⟩ := List.exists_mem_of_length_pos z.2
  have := List.mem_filter.mp hc
  exact h2 z.1 c (List.mem_range.mp this.1) (of_decide_eq_true this.2)
theorem doubled_eq {ts : List sT} {k : Int32} (hl : ts.length ≤ 70) : doubled_s ts k = pick_l ((List.range ts.length).filter (dbl ts)) k := by
  unfold doubled_s
  rw [rf_100 (N := ts.length) (by omega) (fun c hc => ?_)]
  unfold dbl
  rw [List.getElem?_eq_none hc]
theorem bx_pos {c j : Nat} {t : sT} (h1 : t_kind t = 3) (h2 : t_mark t = c) (h3 : 0 < sl_of (t_ls t) j) : bx_p c j t = true := decide_eq_true ⟨h1, h2, h3⟩
theorem bx_neg {c j : Nat} {t : sT} (h : t_kind t = 3 → t_mark t = c → 0 < sl_of (t_ls t) j → False) : ¬ bx_p c j t = true := fun z => by
  have := of_decide_eq_true z
  exact h this.1 this.2.1 this.2.2
/-- a thing's name: what is asked of every layer -/
theorem name_n {ts : List sT} {us : List sU} {b c D : Int32} (h : ∀ p, fnd ts b = some p → ¬ t_ls p.2 = [] → ∀ r u, frc us c D us.length = some r → us[r]? = some u → ¬ ∀ q ∈ t_ls p.2, nm_ok ts u q.1) : name_s ts us b c D = nI 0 := by
  unfold name_s
  split
  · rfl
  · split
    · rfl
    · split
      · rfl
      · split
        · rfl
        · exact if_neg (h _ (by assumption) (by assumption) _ _ (by assumption) (by assumption))
theorem name_y {ts : List sT} {us : List sU} {b c D : Int32} {p : Nat × sT} {r : Nat} {u : sU} (h1 : fnd ts b = some p) (h2 : ¬ t_ls p.2 = []) (h3 : frc us c D us.length = some r) (h4 : us[r]? = some u) (h5 : ∀ q ∈ t_ls p.2, nm_ok ts u q.1) : name_s ts us b c D = nI 1 := by
  unfold name_s
  rw [h1]
  simp only []
  rw [if_neg h2, h3]
  simp only []
  rw [h4]
  exact if_pos h5
