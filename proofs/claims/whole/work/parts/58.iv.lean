/-! pure: what holds of all things -/
def tt (ts : List sT) (h : Nat) : Nat := (ts.map (fun t => sl_of (t_ls t) h)).sum
def tol (ts : List sT) (h : Nat) : Nat := match ts[h]? with
  | some t => t_told t
  | none => 0
def t_w (t : sT) : Prop := (t_kind t ≤ 3 ∧ 1 ≤ t_kind t ∧ t_mark t < 1000 ∧ t_day t < 100000 ∧ t_told t ≤ 1000000000 ∧ t_held t ≤ 1 ∧ t_warm t ≤ 4000 ∧ (t_kind t = 3 → t_mark t < 100)) ∧ sl_g1 (t_ls t) ∧ sl_ad (t_ls t) ∧ (t_ls t).length ≤ 80 ∧ (¬ t_kind t = 1 → t_told t = 0)
def hsh (ts : List sT) : Prop := ∀ i t, ts[i]? = some t → t_kind t = 1 → t_ls t = [] ∨ ∃ g, t_ls t = [(i, g)]
def Iv (ts : List sT) : Prop := ts.length ≤ 70 ∧ (∀ t ∈ ts, t_w t) ∧ (∀ h, tt ts h ≤ tol ts h) ∧ hsh ts
theorem tt_mem {ts : List sT} {t : sT} {h : Nat} (hm : t ∈ ts) : sl_of (t_ls t) h ≤ tt ts h := by
  induction ts with
  | nil => cases hm
  | cons u r ih =>
    show _ ≤ sl_of (t_ls u) h + tt r h
    rcases List.mem_cons.mp hm with rfl | hm
    · omega
    · have := ih hm; omega
theorem Iv.lay {ts : List sT} {t : sT} {p : Nat × Nat} (hI : Iv ts) (ht : t ∈ ts) (hp : p ∈ t_ls t) : ∃ u, ts[p.1]? = some u ∧ t_kind u = 1 ∧ p.1 < ts.length ∧ 1 ≤ p.2 ∧ p.2 ≤ t_told u ∧ t_told u ≤ 1000000000 := by
  have h1 := (hI.2.1 t ht).2.1 p hp
  have h2 := sl_of_mem hp
  have h3 := tt_mem (h := p.1) ht
  have h4 := hI.2.2.1 p.1
  unfold tol at h4
  cases hu : ts[p.1]? with
  | none => rw [hu] at h4; simp only [] at h4; omega
  | some u =>
    rw [hu] at h4
    simp only [] at h4
    have hu2 := hI.2.1 u (List.mem_of_getElem? hu)
    refine ⟨u, rfl, ?_, (List.getElem?_eq_some_iff.mp hu).1, h1, by omega, hu2.1.2.2.2.2.1⟩
    by_cases hk : t_kind u = 1
    · exact hk
    · have := hu2.2.2.2.2 hk; omega
theorem Iv.ok {ts : List sT} (hI : Iv ts) : ∀ t ∈ ts, t_ok t := by
  intro t ht
  obtain ⟨⟨a1, a2, a3, a4, a5, a6, a7, a8⟩, b1, b2, b3, b4⟩ := hI.2.1 t ht
  refine ⟨a1, a2, a3, a4, a5, a6, a7, fun p hp => ?_, fun p hp => ?_, b2, a8⟩
  · obtain ⟨u, h1, h2, h3, h4, h5, h6⟩ := hI.lay ht hp
    have := hI.1
    omega
  · obtain ⟨u, h1, h2, h3, h4, h5, h6⟩ := hI.lay ht hp
    exact ⟨h4, by omega⟩
theorem Iv.of0 {ts : List sT} {t : sT} {h : Nat} (hI : Iv ts) (ht : t ∈ ts) (hh : ts.length ≤ h) : sl_of (t_ls t) h = 0 := by
  have h3 := tt_mem (h := h) ht
  have h4 := hI.2.2.1 h
  unfold tol at h4
  rw [List.getElem?_eq_none hh] at h4
  simp only [] at h4
  omega
theorem tt_set : ∀ (ts : List sT) (i : Nat) (t t' : sT) (h : Nat), ts[i]? = some t → tt (ts.set i t') h + sl_of (t_ls t) h = tt ts h + sl_of (t_ls t') h := by
  intro ts
  induction ts with
  | nil => intro i t t' h hi; simp at hi
  | cons u r ih =>
    intro i t t' h hi
    cases i with
    | zero =>
      simp at hi
      subst hi
      show sl_of (t_ls t') h + tt r h + _ = sl_of (t_ls u) h + tt r h + _
      omega
    | succ i =>
      have := ih i t t' h (by simpa using hi)
      show sl_of (t_ls u) h + tt (r.set i t') h + _ = sl_of (t_ls u) h + tt r h + _
      omega
theorem tt_app (ts : List sT) (t : sT) (h : Nat) : tt (ts ++ [t]) h = tt ts h + sl_of (t_ls t) h := by simp [tt]
theorem tol_set {ts : List sT} {i : Nat} {t t' : sT} {h : Nat} (hi : ts[i]? = some t) : tol (ts.set i t') h = if h = i then t_told t' else tol ts h := by
  unfold tol
  have hl := (List.getElem?_eq_some_iff.mp hi).1
  by_cases e : h = i
  · subst e; rw [List.getElem?_set_self hl, if_pos rfl]
  · rw [List.getElem?_set_ne (Ne.symm e), if_neg e]
theorem tol_at {ts : List sT} {i : Nat} {t : sT} (hi : ts[i]? = some t) : tol ts i = t_told t := by unfold tol; rw [hi]
theorem tol_app (ts : List sT) (t : sT) (h : Nat) : tol (ts ++ [t]) h = if h = ts.length then t_told t else tol ts h := by
  unfold tol
  by_cases e : h = ts.length
  · subst e; simp
  · rw [if_neg e]
    rcases Nat.lt_or_ge h ts.length with q | q
    · rw [List.getElem?_append_left q]
    · rw [List.getElem?_eq_none (by simp; omega), List.getElem?_eq_none q]
/-- one thing anew, with no more in it -/
theorem Iv.set {ts : List sT} {i : Nat} {t t' : sT} (hI : Iv ts) (hi : ts[i]? = some t) (hw : t_w t') (hs : ∀ h, sl_of (t_ls t') h + tt ts h ≤ sl_of (t_ls t) h + tol (ts.set i t') h) (hh : t_kind t' = 1 → t_ls t' = [] ∨ ∃ g, t_ls t' = [(i, g)]) : Iv (ts.set i t') := by
  have hl := (List.getElem?_eq_some_iff.mp hi).1
  refine ⟨by rw [List.length_set]; exact hI.1, fun u hu => ?_, fun h => ?_, fun k u hk hu => ?_⟩
  · rcases List.mem_or_eq_of_mem_set hu with q | q
    · exact hI.2.1 u q
    · subst q; exact hw
  · have := tt_set ts i t t' h hi
    have := hs h
    omega
  · by_cases e : k = i
    · subst e
      rw [List.getElem?_set_self hl] at hk
      cases hk
      exact hh hu
    · rw [List.getElem?_set_ne (Ne.symm e)] at hk
      exact hI.2.2.2 k u hk hu
theorem Iv.add {ts : List sT} {t' : sT} (hI : Iv ts) (hl : ts.length < 70) (hw : t_w t') (hs : ∀ h, sl_of (t_ls t') h + tt ts h ≤ tol (ts ++ [t']) h) (hh : t_kind t' = 1 → t_ls t' = [] ∨ ∃ g, t_ls t' = [(ts.length, g)]) : Iv (ts ++ [t']) := by
  refine ⟨by simp; omega, fun u hu => ?_, fun h => ?_, fun k u hk hu => ?_⟩
  · rcases List.mem_append.mp hu with q | q
    · exact hI.2.1 u q
    · simp at q; subst q; exact hw
  · have := hs h
    rw [tt_app]; omega
  · rcases Nat.lt_or_ge k ts.length with q | q
    · rw [List.getElem?_append_left q] at hk
      exact hI.2.2.2 k u hk hu
    · have hk1 := (List.getElem?_eq_some_iff.mp hk).1
      have : k = ts.length := by simp at hk1; omega
      subst this
      simp at hk
      subst hk
      exact hh hu
theorem Iv.nil : Iv [] := ⟨by simp, fun t ht => (by cases ht), fun h => by simp [tt], fun i t hi => by simp at hi⟩
theorem tol_big {ts : List sT} : tol ts ts.length = 0 := by unfold tol; rw [List.getElem?_eq_none (Nat.le_refl _)]
/-- the same layers, the same told -/
theorem Iv.same {ts : List sT} {i : Nat} {t t' : sT} (hI : Iv ts) (hi : ts[i]? = some t) (hw : t_w t') (h1 : t_ls t' = t_ls t) (h2 : t_told t' = t_told t) (h3 : t_kind t' = t_kind t) : Iv (ts.set i t') := by
  refine hI.set hi hw (fun h => ?_) (fun hk => ?_)
  · rw [h1, tol_set hi]
    have := hI.2.2.1 h
    split
    · rename_i e; subst e; rw [tol_at hi] at this; omega
    · omega
  · rw [h1]; exact hI.2.2.2 i t hi (by rw [← h3]; exact hk)
theorem fnd_at {ts : List sT} {x : Int32} {p : Nat × sT} (h : fnd ts x = some p) : ts[p.1]? = some p.2 := by
  unfold fnd at h
  split at h
  · cases h
  · cases hu : ts[x.toNatClampNeg]? with
    | none => rw [hu] at h; cases h
    | some t => rw [hu] at h; cases h; exact hu
theorem Iv_hold {ts : List sT} {x : Int32} {b : Nat} (hI : Iv ts) (hb : b ≤ 1) : Iv (hold_s ts x b).2 := by
  unfold hold_s
  split
  · exact hI
  · rename_i p hp
    have hi := fnd_at hp
    obtain ⟨⟨a1, a2, a3, a4, a5, a6, a7, a8⟩, w⟩ := hI.2.1 _ (List.mem_of_getElem? hi)
    exact hI.same hi ⟨⟨a1, a2, a3, a4, a5, hb, a7, a8⟩, w⟩ rfl rfl rfl
theorem Iv_warm {ts : List sT} {x e : Int32} (hI : Iv ts) (he : e ≤ nI 4000 → e.toNatClampNeg ≤ 4000) (hn : ∀ {a b : Int32}, ¬ a < b → b ≤ a) : Iv (warm_s ts x e).2 := by
  unfold warm_s
  split
  · exact hI
  · rename_i p hp
    have hi := fnd_at hp
    obtain ⟨⟨a1, a2, a3, a4, a5, a6, a7, a8⟩, w⟩ := hI.2.1 _ (List.mem_of_getElem? hi)
    split
    · exact hI
    · rename_i hc
      have : e.toNatClampNeg ≤ 4000 := he (hn (fun z => hc (Or.inr z)))
      exact hI.same hi ⟨⟨a1, a2, a3, a4, a5, a6, by show max _ _ ≤ 4000; omega, a8⟩, w⟩ rfl rfl rfl
theorem Iv_batch {ts : List sT} (hI : Iv ts) : Iv (batch_s ts).2 := by
  unfold batch_s
  split
  · rename_i hl
    refine hI.add hl ⟨⟨by decide, by decide, by decide, by decide, by decide, by decide, by decide, by decide⟩, fun p hp => (by cases hp), trivial, by decide, fun _ => rfl⟩ (fun h => ?_) (fun z => by cases z)
    rw [tol_app]
    have := hI.2.2.1 h
    show 0 + _ ≤ _
    split
    · rename_i e; subst e; rw [tol_big] at this; omega
    · omega
  · exact hI
theorem Iv_haul {ts : List sT} {g : Int64} {p y : Int32} (hI : Iv ts) (hg : lN 1 ≤ g → g ≤ lN 1000000000 → 1 ≤ gN g ∧ gN g ≤ 1000000000) (hp : p ≤ nI 999 → p.toNatClampNeg ≤ 999) (hy : y ≤ nI 99999 → y.toNatClampNeg ≤ 99999) : Iv (haul_s ts g p y).2 := by
  unfold haul_s
  split
  · rename_i hc
    obtain ⟨⟨g1, g2⟩, ⟨p1, p2⟩, ⟨y1, y2⟩, hl⟩ := hc
    have := hg g1 g2
    have := hp p2
    have := hy y2
    refine hI.add hl ⟨⟨by show 1 ≤ 3; omega, by show 1 ≤ 1; omega, by show p.toNatClampNeg < 1000; omega, by show y.toNatClampNeg < 100000; omega, by show gN g ≤ _; omega, by show 0 ≤ 1; omega, by show 0 ≤ 4000; omega, fun z => by cases z⟩, fun q hq => ?_, trivial, by show 1 ≤ 80; omega, fun z => absurd rfl z⟩ (fun h => ?_) (fun _ => Or.inr ⟨gN g, rfl⟩)
    · have hq : q ∈ [(ts.length, gN g)] := hq
      simp at hq; subst hq; show 1 ≤ gN g; omega
    · rw [tol_app]
      have := hI.2.2.1 h
      show sl_of [(ts.length, gN g)] h + _ ≤ _
      rw [sl_of_cons, sl_of_nil]
      split
      · rename_i e
        have e : ts.length = h := e
        subst e
        rw [if_pos rfl]
        rw [tol_big] at this
        show gN g + 0 + _ ≤ gN g
        omega
      · rename_i e
        have e : ¬ ts.length = h := e
        rw [if_neg (fun z => e z.symm)]
        omega
  · exact hI
theorem rs_hsh {ls : sL} {i g : Nat} (h : ls = [] ∨ ∃ x, ls = [(i, x)]) : sl_rs ls g = [] ∨ ∃ x, sl_rs ls g = [(i, x)] := by
  rcases h with rfl | ⟨x, rfl⟩
  · exact Or.inl rfl
  · unfold sl_rs
    split
    · exact Or.inl rfl
    · exact Or.inr ⟨_, rfl⟩
theorem t_w_rs {t : sT} {g : Nat} (h : t_w t) : t_w (t_setL t (sl_rs (t_ls t) g)) := by
  obtain ⟨a, b1, b2, b3, b4⟩ := h
  exact ⟨a, sl_g1_rs b1, sl_ad_rs b2, Nat.le_trans (sl_rs_len _ _) b3, b4⟩
/-- something out of a thing -/
theorem Iv_out {ts : List sT} {i g : Nat} {t : sT} (hI : Iv ts) (hi : ts[i]? = some t) : Iv (ts.set i (t_setL t (sl_rs (t_ls t) g))) := by
  refine hI.set hi (t_w_rs (hI.2.1 t (List.mem_of_getElem? hi))) (fun h => ?_) (fun hk => rs_hsh (hI.2.2.2 i t hi hk))
  rw [tol_set hi]
  have h1 := sl_of_tr (t_ls t) g h
  have h2 := hI.2.2.1 h
  show sl_of (sl_rs (t_ls t) g) h + _ ≤ _
  split
  · rename_i e; subst e; rw [tol_at hi] at h2; show _ ≤ _ + t_told t; omega
  · omega
theorem Iv_waste {ts : List sT} {x : Int32} {g : Int64} (hI : Iv ts) : Iv (waste_s ts x g).2 := by
  unfold waste_s
  split
  · exact hI
  · rename_i p hp
    have hi := fnd_at hp
    split
    · have h1 := Iv_out (g := gN g) hI hi
      have hl := (List.getElem?_eq_some_iff.mp hi).1
      have hi2 : (ts.set p.1 (t_setL p.2 (sl_rs (t_ls p.2) (gN g))))[p.1]? = some (t_setL p.2 (sl_rs (t_ls p.2) (gN g))) := List.getElem?_set_self hl
      have hw := h1.2.1 _ (List.mem_of_getElem? hi2)
      have h2 := h1.same (t' := t_setX (t_setL p.2 (sl_rs (t_ls p.2) (gN g))) (t_lost p.2 + gN g)) hi2 hw rfl rfl rfl
      rw [List.set_set] at h2
      exact h2
    · exact hI
theorem Iv_into {ts : List sT} {b f : Int32} {g : Int64} (hI : Iv ts) : Iv (into_s ts b f g).2 := by
  by_cases hc : ∃ p q, fnd ts b = some p ∧ fnd ts f = some q ∧ into_c p q g
  · obtain ⟨p, q, h1, h2, hc⟩ := hc
    rw [into_yes h1 h2 hc]
    obtain ⟨⟨c1, c2, c3, c4, c5⟩, c6, c7⟩ := hc
    have hi := fnd_at h1
    have hj := fnd_at h2
    have wp := hI.2.1 _ (List.mem_of_getElem? hi)
    have wq := hI.2.1 _ (List.mem_of_getElem? hj)
    have hil := (List.getElem?_eq_some_iff.mp hi).1
    have hjl := (List.getElem?_eq_some_iff.mp hj).1
    show Iv ((ts.set p.1 _).set q.1 _)
    rw [List.set_comm _ _ c1]
    have i1 := Iv_out (g := gN g) hI hj
    have hi2 : (ts.set q.1 (t_setL q.2 (sl_rs (t_ls q.2) (gN g))))[p.1]? = some p.2 := by rw [List.getElem?_set_ne (Ne.symm c1)]; exact hi
    obtain ⟨⟨a1, a2, a3, a4, a5, a6, a7, a8⟩, b1, b2, b3, b4⟩ := wp
    have wq7 := wq.1.2.2.2.2.2.2.1
    refine i1.set hi2 ⟨⟨a1, a2, a3, a4, a5, a6, by show max _ _ ≤ 4000; omega, a8⟩, sl_g1_jl b1 (sl_g1_tk wq.2.1), sl_ad_jl b2, c7, b4⟩ (fun h => ?_) (fun z => absurd (z.symm.trans c2) (by decide))
    have e1 := tt_set ts q.1 q.2 (t_setL q.2 (sl_rs (t_ls q.2) (gN g))) h hj
    have e2 := sl_of_tr (t_ls q.2) (gN g) h
    have e3 := hI.2.2.1 h
    have e4 : tol ((ts.set q.1 (t_setL q.2 (sl_rs (t_ls q.2) (gN g)))).set p.1 (t_setW (t_setL p.2 (sl_jl (t_ls p.2) (sl_tk (t_ls q.2) (gN g)))) (max (t_warm p.2) (t_warm q.2)))) h = tol ts h := by
      rw [tol_set hi2, tol_set hj]
      split
      · rename_i e; subst e; rw [tol_at hi]; rfl
      · split
        · rename_i e; subst e; rw [tol_at hj]; rfl
        · rfl
    rw [e4]
    show sl_of (sl_jl (t_ls p.2) (sl_tk (t_ls q.2) (gN g))) h + _ ≤ _
    rw [sl_of_jl]
    have e5 : sl_of (t_ls (t_setL q.2 (sl_rs (t_ls q.2) (gN g)))) h = sl_of (sl_rs (t_ls q.2) (gN g)) h := rfl
    omega
  · rw [into_no (fun p q h1 h2 h3 => hc ⟨p, q, h1, h2, h3⟩)]
    exact hI
theorem Iv_box {ts : List sT} {f c : Int32} {g : Int64} (hI : Iv ts) (hcc : c ≤ nI 99 → c.toNatClampNeg ≤ 99) : Iv (box_s ts f g c).2 := by
  by_cases hc : ∃ q, fnd ts f = some q ∧ box_c ts q g c
  · obtain ⟨q, h2, hc⟩ := hc
    rw [box_yes h2 hc]
    obtain ⟨c1, ⟨c2, c3⟩, c4, c5, c6⟩ := hc
    have c3 := hcc c3
    have hj := fnd_at h2
    have wq := hI.2.1 _ (List.mem_of_getElem? hj)
    have i1 := Iv_out (g := gN g) hI hj
    have wq7 := wq.1.2.2.2.2.2.2.1
    have hlen : (sl_jl [] (sl_tk (t_ls q.2) (gN g))).length ≤ 80 := by
      have h1 := sl_jl_le (sl_tk (t_ls q.2) (gN g)) []
      have h2 := sl_tk_len (t_ls q.2) (gN g)
      have h3 := wq.2.2.2.1
      have h4 : ([] : sL).length = 0 := rfl
      omega
    refine i1.add (by rw [List.length_set]; exact c6) ⟨⟨by show 3 ≤ 3; omega, by show 1 ≤ 3; omega, by show c.toNatClampNeg < 1000; omega, by show 0 < 100000; omega, by show 0 ≤ 1000000000; omega, by show 0 ≤ 1; omega, wq7, fun _ => by show c.toNatClampNeg < 100; omega⟩, sl_g1_jl (fun p hp => by cases hp) (sl_g1_tk wq.2.1), sl_ad_jl trivial, hlen, fun _ => rfl⟩ (fun h => ?_) (fun z => by cases z)
    have e1 := tt_set ts q.1 q.2 (t_setL q.2 (sl_rs (t_ls q.2) (gN g))) h hj
    have e2 := sl_of_tr (t_ls q.2) (gN g) h
    have e3 := hI.2.2.1 h
    rw [tol_app, List.length_set, tol_set hj]
    show sl_of (sl_jl [] (sl_tk (t_ls q.2) (gN g))) h + _ ≤ _
    rw [sl_of_jl, sl_of_nil]
    have e5 : sl_of (t_ls (t_setL q.2 (sl_rs (t_ls q.2) (gN g)))) h = sl_of (sl_rs (t_ls q.2) (gN g)) h := rfl
    split
    · rename_i e; subst e; rw [tol_big] at e3; omega
    · split
      · rename_i e; subst e; rw [tol_at hj] at e3; show _ ≤ t_told q.2; omega
      · omega
  · rw [box_no (fun q h1 h2 => hc ⟨q, h1, h2⟩)]
    exact hI
theorem Iv_correct {ts : List sT} {x : Int32} {g : Int64} (hI : Iv ts) (hg : lN 1 ≤ g → g ≤ lN 1000000000 → 1 ≤ gN g ∧ gN g ≤ 1000000000) : Iv (correct_s ts x g).2 := by
  by_cases hc : ∃ q, fnd ts x = some q ∧ corr_c q g
  · obtain ⟨q, h2, hc⟩ := hc
    rw [corr_yes h2 hc]
    obtain ⟨c1, ⟨c2, c3⟩, c4⟩ := hc
    have c3 := hg c2 c3
    have hj := fnd_at h2
    have wq := hI.2.1 _ (List.mem_of_getElem? hj)
    obtain ⟨⟨a1, a2, a3, a4, a5, a6, a7, a8⟩, b1, b2, b3, b4⟩ := wq
    have sh := hI.2.2.2 _ _ hj c1
    have et : sl_tot (t_ls q.2) = sl_of (t_ls q.2) q.1 := by
      rcases sh with e | ⟨y, e⟩ <;> rw [e] <;> simp [sl_tot, sl_of]
    have eo : ∀ h, ¬ h = q.1 → sl_of (t_ls q.2) h = 0 := by
      intro h hne
      rcases sh with e | ⟨y, e⟩ <;> rw [e] <;> simp [sl_of]
      intro z; exact absurd z.symm hne
    have en : ∀ h, sl_of (if sl_tot (t_ls q.2) + gN g - t_told q.2 = 0 then [] else [(q.1, sl_tot (t_ls q.2) + gN g - t_told q.2)]) h = if q.1 = h then sl_tot (t_ls q.2) + gN g - t_told q.2 else 0 := by
      intro h
      split
      · rename_i z; rw [z]; simp [sl_of]
      · rw [sl_of_cons, sl_of_nil, Nat.add_zero]
    refine hI.set hj ⟨⟨a1, a2, a3, a4, c3.2, a6, a7, a8⟩, ?_, ?_, ?_, fun z => absurd c1 z⟩ (fun h => ?_) (fun _ => ?_)
    · show sl_g1 (if _ then _ else _)
      split
      · intro p hp; cases hp
      · rename_i z; intro p hp; simp at hp; subst hp; show 1 ≤ _ - _; omega
    · show sl_ad (if _ then _ else _)
      split <;> exact trivial
    · show (if _ then _ else _ : sL).length ≤ 80
      split <;> simp
    · show sl_of (if _ then _ else _) h + _ ≤ _
      rw [en h, tol_set hj]
      have e3 := hI.2.2.1 h
      by_cases e : h = q.1
      · subst e
        rw [if_pos rfl, if_pos rfl]
        rw [tol_at hj] at e3
        show _ ≤ _ + gN g
        omega
      · rw [if_neg (fun z => e z.symm), if_neg e]
        omega
    · by_cases z : sl_tot (t_ls q.2) + gN g - t_told q.2 = 0
      · exact Or.inl (if_pos z)
      · exact Or.inr ⟨_, if_neg z⟩
  · rw [corr_no (fun q h1 h2 => hc ⟨q, h1, h2⟩)]
    exact hI
