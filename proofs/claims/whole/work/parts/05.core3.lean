/-! rows that touch the heap; calls -/
theorem ev_one {D : va_G} {cl : List vw_C} {q : Nat × va_E} {H : Heap} (hq : va_at D cl q H) : va_P D cl [q] H := fun k x hk => by
  cases k with
  | zero => cases hk; exact hq
  | succ k => simp at hk
theorem ev_tyOf {G : xG} {U : State} (hK : ev_K G U) {t : Nat} {ty : FieldType} (ht : ev_tys[t]? = some ty) : ∃ cA : ClassId, (xTy G)[t]? = some (cA, ty) ∧ ArrOfT U cA ty ∧ va_RA U cA ty := by
  have hm := hK.2.2.2.2.2.2.2.2
  rw [← hm, List.getElem?_map] at ht
  cases hq : (xTy G)[t]? with
  | none => rw [hq] at ht; cases ht
  | some q =>
    rw [hq] at ht
    obtain ⟨cA, ty'⟩ := q
    cases ht
    exact ⟨cA, rfl, hK.1.2 t _ hq⟩
def ev_fld (own : String) (index ci k : Nat) : Prop := ∃ (C : String) (T : u_T) (N : Nat), vwCl[ci]? = some (C, T, N) ∧ k < N ∧ Cond.fieldLink own index (T k).1 (T k).2.1 (T k).2.2.1 ∈ ev_T ∧ ∀ w ∈ u_ws C T N, w ∈ ev_T
def ev_fty (ci k : Nat) (ty : FieldType) (fin : Bool) (own : String) : Prop := ∃ (C : String) (T : u_T) (N : Nat) (ty0 : Nat → FieldType), vwCl[ci]? = some (C, T, N) ∧ (∀ j, j < N → parseFieldDescriptor (T j).2.2.1 = some (ty0 j)) ∧ (∀ a, a < N → ∀ b, b < N → a ≠ b → (T a).2.1 ≠ (T b).2.1) ∧ parseFieldDescriptor (T k).2.2.1 = some ty ∧ (T k).2.2.2 = fin ∧ (T k).1 = own
def ev_cls (own : String) (index ci N : Nat) (fs : List Value) : Prop := ∃ (C : String) (T : u_T) (ty : Nat → FieldType), vwCl[ci]? = some (C, T, N) ∧ (∀ k, k < N → parseFieldDescriptor (T k).2.2.1 = some (ty k)) ∧ (∀ j, j < N → defaultValue (ty j) = vp_V fs j) ∧ Cond.classLink own index C ∈ ev_T ∧ Cond.instantiable C N ∈ ev_T ∧ Cond.initialized C ∈ ev_T ∧ ∀ w ∈ u_ws C T N, w ∈ ev_T
section EVH
variable {G : xG} {l : Launch} {d bc bs : Nat} {M : xM} {pc : Nat} {L : List (Option Value)} {st : List Value} {h : xH} {n : Nat} {P : Option Value → xH → Nat → Prop}
theorem ev_get {i ci k a : Nat} {fs : List Value} {v : Value} (hd : decode M.2.1 pc = .ok (.getfield i, 3)) (hq : ev_fld M.1.cls i ci k) (ha : h a = some (.inr (ci, fs))) (hv : fs[k]? = some v) (kk : ev_Run G l d bc bs M (pc + 3) L (v :: st) h n P) : ev_Run G l d bc bs M pc L (.ref a :: st) h n P := by
  intro p e s m args below meth c R Q H locs cells slots ls C hf hlo hc hs hL hH hS hk
  obtain ⟨CC, T, N, hcl, hkN, hw, hin⟩ := hq
  exact va_get (D := xD G) (cl := vwCl) (tys := xTy G) (ws := [(a, .inr (ci, fs))]) C.1 C.2.1 C.2.2.2.2.2.2.1 hin C.2.2.2.2.2.1 C.2.2.2.2.2.2.2.1.1 (ev_one (hH.2.2.2 a _ ha).2) 0 rfl hcl k hkN (C.2.2.2.2.2.2.1 _ hw) (fun _ h9 => h9) hv hd (kk p e s m args below meth c R Q H locs cells slots ls C hf hlo hc hs hL hH hS hk)
theorem ev_put {i ci k a : Nat} {fs : List Value} {v : Value} {ty : FieldType} {own : String} (hd : decode M.2.1 pc = .ok (.putfield i, 3)) (hq : ev_fld M.1.cls i ci k) (hq2 : ev_fty ci k ty false own) (ha : h a = some (.inr (ci, fs))) (hn : narrow ty v = v) (hfit : fits ty v = true) (hl : k < fs.length) (kk : ev_Run G l d bc bs M (pc + 3) L st (hp_set h a (.inr (ci, fs.set k v))) n P) : ev_Run G l d bc bs M pc L (v :: .ref a :: st) h n P := by
  intro p e s m args below meth c R Q H locs cells slots ls C hf hlo hc hs hL hH hS hk
  obtain ⟨CC, T, N, hcl, hkN, hw, hin⟩ := hq
  obtain ⟨C2, T2, N2, ty0, hcl2, hty, hnm, hd2, hfin, -⟩ := hq2
  cases hcl.symm.trans hcl2
  obtain ⟨hab, hat⟩ := hH.2.2.2 a _ ha
  have hts := C.2.2.2.2.2.2.1
  have hown := C.2.2.2.2.2.1
  have hK := C.2.2.2.2.2.2.2.1.1
  have hbb := C.2.2.2.2.2.2.2.1.2.2.2.2.2.2.2.1
  have hap := va_apart (own := M.1.cls) hts hin ty0 hty hnm hK hcl
  obtain ⟨r, h1, cell, q1, q2, q3, q4⟩ := hat
  have hr : r = (CC, T, N) := Option.some.inj (h1.symm.trans hcl)
  subst hr
  obtain ⟨hSl, hfc, kC, hkC, hkind⟩ := hK.1 ci _ hcl
  obtain ⟨cf, kf, fi, f, hi, hsl⟩ := hSl k hkN
  have hlay := hts _ (hin _ (u_in_lay hkN))
  unfold u_lay at hlay
  rw [if_neg (by rw [hfin]; decide)] at hlay
  have hst := (u_facts hfc hkC (u_lays hts hin hkN) hi).1
  have h6 := u_store hfc hkC hkind hlay hi hd2 hn hfit
  refine W.putK C.1 C.2.1 (f := f) ⟨hown, hts _ hw, ⟨_, _, _, hi⟩, hst⟩ (by rw [q2]; exact h6) q1 q3 (by rw [hsl]; exact k2_hasslot (q4 k hkN)) rfl rfl hd fun H' e1 e2 e3 => ?_
  refine kk p e s m args below meth c R Q H' _ cells slots ls C hf hlo hc hs hL (hH.put hab hbb e2 e3 ?_) (hS.put e2 e3 hab) hk
  rw [hsl] at e1
  exact ⟨_, hcl, t_OB.to (V := updV (vp_V fs) k v) ⟨_, e1, q2, q3, t_set q4 hap hkN v⟩ (fun j _ => vp_updV_set hl v j)⟩
theorem ev_putF {i ci k a : Nat} {fs : List Value} {v : Value} {ty : FieldType} (hd : decode M.2.1 pc = .ok (.putfield i, 3)) (hq : ev_fld M.1.cls i ci k) (hq2 : ev_fty ci k ty true M.1.cls) (hini : M.1.name = "<init>") (ha : h a = some (.inr (ci, fs))) (hn : narrow ty v = v) (hfit : fits ty v = true) (hl : k < fs.length) (kk : ev_Run G l d bc bs M (pc + 3) L st (hp_set h a (.inr (ci, fs.set k v))) n P) : ev_Run G l d bc bs M pc L (v :: .ref a :: st) h n P := by
  intro p e s m args below meth c R Q H locs cells slots ls C hf hlo hc hs hL hH hS hk
  obtain ⟨CC, T, N, hcl, hkN, hw, hin⟩ := hq
  obtain ⟨C2, T2, N2, ty0, hcl2, hty, hnm, hd2, hfin, hdecl⟩ := hq2
  cases hcl.symm.trans hcl2
  obtain ⟨hab, hat⟩ := hH.2.2.2 a _ ha
  have hts := C.2.2.2.2.2.2.1
  have hown := C.2.2.2.2.2.1
  have hK := C.2.2.2.2.2.2.2.1.1
  have hbb := C.2.2.2.2.2.2.2.1.2.2.2.2.2.2.2.1
  have hin2 : meth.name = "<init>" := C.2.2.2.2.2.2.2.2.1.trans hini
  have hap := va_apart (own := M.1.cls) hts hin ty0 hty hnm hK hcl
  obtain ⟨r, h1, cell, q1, q2, q3, q4⟩ := hat
  have hr : r = (CC, T, N) := Option.some.inj (h1.symm.trans hcl)
  subst hr
  obtain ⟨hSl, hfc, kC, hkC, hkind⟩ := hK.1 ci _ hcl
  obtain ⟨cf, kf, fi, f, hi, hsl⟩ := hSl k hkN
  have hlay := hts _ (hin _ (u_in_lay hkN))
  unfold u_lay at hlay
  rw [if_pos hfin] at hlay
  have hst := (u_facts hfc hkC (u_lays hts hin hkN) hi).1
  have hcf : m.cls = cf := by
    obtain ⟨_, _, c', _, _, _, -, -, hf', -, -, -, hown2, -⟩ := Cond.laysFinal_spec hlay
    have e1 : c' = cf := by have := hi.symm.trans hf'; simp at this; exact this.1.symm
    rw [hdecl] at hown2
    rw [← e1]; exact Option.some.inj (hown.symm.trans hown2)
  have h6 := u_fits hfc hkC hkind (Or.inr hlay) hi hd2 hn hfit
  refine W.putFinK C.1 C.2.1 hown (hts _ hw) hi hst hcf hin2 (by rw [q2]; exact h6) q1 q3 (by rw [hsl]; exact k2_hasslot (q4 k hkN)) rfl rfl hd fun H' e1 e2 e3 => ?_
  refine kk p e s m args below meth c R Q H' _ cells slots ls C hf hlo hc hs hL (hH.put hab hbb e2 e3 ?_) (hS.put e2 e3 hab) hk
  rw [hsl] at e1
  exact ⟨_, hcl, t_OB.to (V := updV (vp_V fs) k v) ⟨_, e1, q2, q3, t_set q4 hap hkN v⟩ (fun j _ => vp_updV_set hl v j)⟩
/-! arrays -/
theorem ev_alen {t a : Nat} {x : vp_A} {ty : FieldType} (hd : decode M.2.1 pc = .ok (.arraylength, 1)) (ha : h a = some (.inl (t, x))) (ht : ev_tys[t]? = some ty) (kk : ev_Run G l d bc bs M (pc + 1) L (.int (nI x.1) :: st) h n P) : ev_Run G l d bc bs M pc L (.ref a :: st) h n P := by
  intro p e s m args below meth c R Q H locs cells slots ls C hf hlo hc hs hL hH hS hk
  obtain ⟨q, hq, hcell⟩ := (hH.2.2.2 a _ ha).2
  obtain ⟨cA, hq', -, -⟩ := ev_tyOf C.2.2.2.2.2.2.2.1 ht
  cases hq.symm.trans hq'
  exact va_alen (D := xD G) (cl := vwCl) (tys := xTy G) (ws := [(a, .inl (cA, x))]) C.1 C.2.1 C.2.2.2.2.2.2.2.1.1 (ev_one hcell) 0 t rfl hq rfl hd (kk p e s m args below meth c R Q H locs cells slots ls C hf hlo hc hs hL hH hS hk)
theorem ev_iald {t a N j : Nat} {f : Nat → Int32} {i : Int32} (hd : decode M.2.1 pc = .ok (.iaload, 1)) (ha : h a = some (.inl (t, N, .inl f))) (ht : ev_tys[t]? = some .int) (hi : i = nI j) (hj : j < N) (hN : N < 2 ^ 31) (kk : ev_Run G l d bc bs M (pc + 1) L (.int (f j) :: st) h n P) : ev_Run G l d bc bs M pc L (.int i :: .ref a :: st) h n P := by
  subst hi
  intro p e s m args below meth c R Q H locs cells slots ls C hf hlo hc hs hL hH hS hk
  obtain ⟨q, hq, hcell⟩ := (hH.2.2.2 a _ ha).2
  obtain ⟨cA, hq', -, -⟩ := ev_tyOf C.2.2.2.2.2.2.2.1 ht
  cases hq.symm.trans hq'
  have hin : vp_in (nI j) N := vp_in_nI hj hN
  refine va_iald (D := xD G) (cl := vwCl) (tys := xTy G) (ws := [(a, .inl (cA, N, .inl f))]) C.1 C.2.1 C.2.2.2.2.2.2.2.1.1 (ev_one hcell) 0 t rfl hq hin hd ?_
  rw [nI_clamp (by omega)]
  exact kk p e s m args below meth c R Q H locs cells slots ls C hf hlo hc hs hL hH hS hk
theorem ev_lald {t a N j : Nat} {f : Nat → Int64} {i : Int32} (hd : decode M.2.1 pc = .ok (.laload, 1)) (ha : h a = some (.inl (t, N, .inr (.inl f)))) (ht : ev_tys[t]? = some .long) (hi : i = nI j) (hj : j < N) (hN : N < 2 ^ 31) (kk : ev_Run G l d bc bs M (pc + 1) L (.long (f j) :: st) h n P) : ev_Run G l d bc bs M pc L (.int i :: .ref a :: st) h n P := by
  subst hi
  intro p e s m args below meth c R Q H locs cells slots ls C hf hlo hc hs hL hH hS hk
  obtain ⟨q, hq, hcell⟩ := (hH.2.2.2 a _ ha).2
  obtain ⟨cA, hq', -, -⟩ := ev_tyOf C.2.2.2.2.2.2.2.1 ht
  cases hq.symm.trans hq'
  have hin : vp_in (nI j) N := vp_in_nI hj hN
  refine va_lald (D := xD G) (cl := vwCl) (tys := xTy G) (ws := [(a, .inl (cA, N, .inr (.inl f)))]) C.1 C.2.1 C.2.2.2.2.2.2.2.1.1 (ev_one hcell) 0 t rfl hq hin hd ?_
  rw [nI_clamp (by omega)]
  exact kk p e s m args below meth c R Q H locs cells slots ls C hf hlo hc hs hL hH hS hk
theorem ev_aald {t a N j b : Nat} {E : String} {f : Nat → Option Nat} {i : Int32} (hd : decode M.2.1 pc = .ok (.aaload, 1)) (ha : h a = some (.inl (t, N, .inr (.inr (.inr (.inr f)))))) (ht : ev_tys[t]? = some (.object E)) (hi : i = nI j) (hj : j < N) (hN : N < 2 ^ 31) (hv : f j = some b) (kk : ev_Run G l d bc bs M (pc + 1) L (.ref b :: st) h n P) : ev_Run G l d bc bs M pc L (.int i :: .ref a :: st) h n P := by
  subst hi
  intro p e s m args below meth c R Q H locs cells slots ls C hf hlo hc hs hL hH hS hk
  obtain ⟨q, hq, hcell⟩ := (hH.2.2.2 a _ ha).2
  obtain ⟨cA, hq', -, -⟩ := ev_tyOf C.2.2.2.2.2.2.2.1 ht
  cases hq.symm.trans hq'
  have hin : vp_in (nI j) N := vp_in_nI hj hN
  refine va_aldq (D := xD G) (cl := vwCl) (tys := xTy G) (C := E) (ws := [(a, .inl (cA, N, .inr (.inr (.inr (.inr f)))))]) C.1 C.2.1 C.2.2.2.2.2.2.2.1.1 (ev_one hcell) 0 t rfl hq hin hd ?_
  rw [nI_clamp (by omega), hv]
  exact kk p e s m args below meth c R Q H locs cells slots ls C hf hlo hc hs hL hH hS hk
theorem ev_iast {t a N j : Nat} {f : Nat → Int32} {i x : Int32} (hd : decode M.2.1 pc = .ok (.iastore, 1)) (ha : h a = some (.inl (t, N, .inl f))) (ht : ev_tys[t]? = some .int) (hi : i = nI j) (hj : j < N) (hN : N < 2 ^ 31) (kk : ev_Run G l d bc bs M (pc + 1) L st (hp_set h a (.inl (t, N, .inl (upd f j x)))) n P) : ev_Run G l d bc bs M pc L (.int x :: .int i :: .ref a :: st) h n P := by
  subst hi
  intro p e s m args below meth c R Q H locs cells slots ls C hf hlo hc hs hL hH hS hk
  obtain ⟨hab, q, hq, hcell⟩ := hH.2.2.2 a _ ha
  obtain ⟨cA, hq', hAr, -⟩ := ev_tyOf C.2.2.2.2.2.2.2.1 ht
  cases hq.symm.trans hq'
  have hbb := C.2.2.2.2.2.2.2.1.2.2.2.2.2.2.2.1
  have hin : vp_in (nI j) N := vp_in_nI hj hN
  refine W.iast C.1 C.2.1 hcell (hAr N (fun j => .int (f j))) (fun q => by cases q) (by show ¬ (nI j < 0 ∨ (arrV _ _ _).slots.size ≤ _); rw [arrV_size]; exact hin) rfl rfl hd fun H1 e1 z oq => ?_
  refine kk p e s m args below meth c R Q H1 _ cells slots ls C hf hlo hc hs hL (hH.put hab hbb z oq ⟨_, hq, ?_⟩) (hS.put z oq hab) hk
  rw [e1, vp_cell_i, vp_cell_i, arrV_store, nI_clamp (by omega)]
  congr 2
  funext y
  by_cases hy : y = j
  · subst hy
    simp [updV, upd]
  · simp [updV, upd, hy]
theorem ev_last {t a N j : Nat} {f : Nat → Int64} {i : Int32} {x : Int64} (hd : decode M.2.1 pc = .ok (.lastore, 1)) (ha : h a = some (.inl (t, N, .inr (.inl f)))) (ht : ev_tys[t]? = some .long) (hi : i = nI j) (hj : j < N) (hN : N < 2 ^ 31) (kk : ev_Run G l d bc bs M (pc + 1) L st (hp_set h a (.inl (t, N, .inr (.inl (vp_updL f j x))))) n P) : ev_Run G l d bc bs M pc L (.long x :: .int i :: .ref a :: st) h n P := by
  subst hi
  intro p e s m args below meth c R Q H locs cells slots ls C hf hlo hc hs hL hH hS hk
  obtain ⟨hab, q, hq, hcell⟩ := hH.2.2.2 a _ ha
  obtain ⟨cA, hq', hAr, -⟩ := ev_tyOf C.2.2.2.2.2.2.2.1 ht
  cases hq.symm.trans hq'
  have hbb := C.2.2.2.2.2.2.2.1.2.2.2.2.2.2.2.1
  have hin : vp_in (nI j) N := vp_in_nI hj hN
  refine W.last C.1 C.2.1 hcell (hAr N (fun j => .long (f j))) (fun q => by cases q) (by show ¬ (nI j < 0 ∨ (arrV _ _ _).slots.size ≤ _); rw [arrV_size]; exact hin) rfl rfl hd fun H1 e1 z oq => ?_
  refine kk p e s m args below meth c R Q H1 _ cells slots ls C hf hlo hc hs hL (hH.put hab hbb z oq ⟨_, hq, ?_⟩) (hS.put z oq hab) hk
  rw [e1, vp_cell_l, vp_cell_l, arrV_store, nI_clamp (by omega)]
  congr 2
  funext y
  by_cases hy : y = j
  · subst hy
    simp [updV, vp_updL]
  · simp [updV, vp_updL, hy]
theorem ev_aast {t a N j v ci : Nat} {fs : List Value} {E : String} {T : u_T} {NN : Nat} {f : Nat → Option Nat} {i : Int32} (hd : decode M.2.1 pc = .ok (.aastore, 1)) (ha : h a = some (.inl (t, N, .inr (.inr (.inr (.inr f)))))) (ht : ev_tys[t]? = some (.object E)) (hv : h v = some (.inr (ci, fs))) (hci : vwCl[ci]? = some (E, T, NN)) (hi : i = nI j) (hj : j < N) (hN : N < 2 ^ 31) (kk : ev_Run G l d bc bs M (pc + 1) L st (hp_set h a (.inl (t, N, .inr (.inr (.inr (.inr (va_up f j (some v)))))))) n P) : ev_Run G l d bc bs M pc L (.ref v :: .int i :: .ref a :: st) h n P := by
  subst hi
  intro p e s m args below meth c R Q H locs cells slots ls C hf hlo hc hs hL hH hS hk
  obtain ⟨hab, q, hq, hcell⟩ := hH.2.2.2 a _ ha
  obtain ⟨cA, hq', hAr, hRA⟩ := ev_tyOf C.2.2.2.2.2.2.2.1 ht
  cases hq.symm.trans hq'
  have hbb := C.2.2.2.2.2.2.2.1.2.2.2.2.2.2.2.1
  have hK := C.2.2.2.2.2.2.2.1.1
  have hlt : (nI j).toNatClampNeg < N := by rw [nI_clamp (by omega)]; exact hj
  have h0 : ¬ nI j < 0 := nI_pos (by omega)
  obtain ⟨r', hr', cellV, g1, g2, g3, -⟩ := (hH.2.2.2 v _ hv).2
  have hcls := (hK.1 ci _ hci).2
  obtain ⟨kA, comp, k1, k2, k3, -⟩ := hRA
  have hcomp : comp = (xD G).1 ci := Option.some.inj (k3.symm.trans hcls.1)
  subst hcomp
  obtain ⟨kC, hkC, -⟩ := hcls.2
  refine W.aast C.1 C.2.1 hcell (fun q h => by cases h) (fun h => by cases h) k1 k2 rfl hkC ⟨h0, by show _ < (arrV _ _ _).slots.size; rw [arrV_size]; exact hlt⟩ g1 (fun q h => by rw [g3] at h; cases h) (by rw [g2]; exact hkC) (by rw [g2]; exact va_assign hcls) rfl rfl hd fun H1 e1 z oq => ?_
  refine kk p e s m args below meth c R Q H1 _ cells slots ls C hf hlo hc hs hL (hH.put hab hbb z oq ⟨_, hq, ?_⟩) (hS.put z oq hab) hk
  rw [e1, vp_cell_q, vp_cell_q, arrV_store, nI_clamp (by omega)]
  congr 2
  funext y
  by_cases hy : y = j
  · subst hy
    simp [updV, va_up, va_rf]
  · simp [updV, va_up, hy]
/-! the law's own script -/
theorem ev_slen (hd : decode M.2.1 pc = .ok (.arraylength, 1)) (kk : ev_Run G l d bc bs M (pc + 1) L (.int (nI (xN G)) :: st) h n P) : ev_Run G l d bc bs M pc L (.ref (xb G) :: st) h n P := by
  intro p e s m args below meth c R Q H locs cells slots ls C hf hlo hc hs hL hH hS hk
  obtain ⟨-, -, -, k1, k2, k3, k4, -, -⟩ := C.2.2.2.2.2.2.2.1
  exact W.alen (n := nI (xN G)) C.1 C.2.1 hH.2.2.1 k1 (by rw [k3]; rfl) rfl rfl hd (kk p e s m args below meth c R Q H locs cells slots ls C hf hlo hc hs hL hH hS hk)
theorem ev_sld {i : Int32} {j : Nat} (hd : decode M.2.1 pc = .ok (.iaload, 1)) (hi : i = nI j) (hj : j < xN G) (hN : xN G < 2 ^ 31) (kk : ev_Run G l d bc bs M (pc + 1) L (.int (xX G j) :: st) h n P) : ev_Run G l d bc bs M pc L (.int i :: .ref (xb G) :: st) h n P := by
  subst hi
  intro p e s m args below meth c R Q H locs cells slots ls C hf hlo hc hs hL hH hS hk
  obtain ⟨-, -, -, k1, k2, k3, k4, -, -⟩ := C.2.2.2.2.2.2.2.1
  exact W.iald (v := .int (xX G j)) C.1 C.2.1 hH.2.2.1 k1 k2 (by rw [k3]; exact vp_in_nI hj hN) (by rw [nI_clamp (by omega)]; exact k4 j hj) rfl rfl hd (kk p e s m args below meth c R Q H locs cells slots ls C hf hlo hc hs hL hH hS hk)
/-! making -/
theorem ev_new {i ci N : Nat} {fs : List Value} (hd : decode M.2.1 pc = .ok (.new i, 3)) (hq : ev_cls M.1.cls i ci N fs) (kk : ev_Run G l d bc bs M (pc + 3) L (.ref n :: st) (hp_set h n (.inr (ci, fs))) (n + 1) P) : ev_Run G l d (bc + 1) (bs + N) M pc L st h n P := by
  intro p e s m args below meth c R Q H locs cells slots ls C hf hlo hc hs hL hH hS hk
  obtain ⟨CC, T, ty, hcl, hty, hfs, w1, w2, w3, hin⟩ := hq
  have hts := C.2.2.2.2.2.2.1
  have hK := C.2.2.2.2.2.2.2.1.1
  have hbb := C.2.2.2.2.2.2.2.1.2.2.2.2.2.2.2.1
  have hKn := hK.1 ci _ hcl
  refine W.newcK C.1 C.2.1 C.2.2.2.2.2.1 (hts _ w1) (hts _ w2) (hts _ w3) rfl hd (by omega) (by omega) hKn.2.1 hH.1 fun H1 kC hkC e1 z1 o1 => ?_
  refine kk p e s m args below meth c R Q H1 locs (cells + 1) (slots + N) ls C hf hlo (by omega) (by omega) hL (hH.push hbb z1 o1 ?_) ⟨by have := hS.1; have := hH.1; omega, fun x h1 h2 => (o1 x (by have := hS.1; have := hH.1; omega)).trans (hS.2.1 x h1 h2), hS.2.2⟩ (fun v h' n' H' locs' cells' slots' pc' ls' q q1 q2 q3 q4 q5 => hk v h' n' H' locs' cells' slots' pc' ls' q q1 q2 (by omega) (by omega) q5)
  exact ⟨_, hcl, (u_born ty hts hin hKn hkC e1 hty).to hfs⟩
theorem ev_newa {atype : ArrayType} {ty : FieldType} {t N : Nat} {x : Int32} {a0 : vp_A} (hd : decode M.2.1 pc = .ok (.newarray atype, 2)) (hty : newarray.typeOf atype = ty) (hno : ∀ C : String, ty ≠ .object C) (ht : ev_tys[t]? = some ty) (hw : Cond.arrayClass ty ∈ ev_T) (ha : ∀ cA : ClassId, vp_cell cA a0 = arrV cA N (fun _ => defaultValue ty)) (hx : x = nI N) (hN : N * componentBytes ty ≤ 536870912) (hN2 : N < 2 ^ 31) (kk : ev_Run G l d bc bs M (pc + 2) L (.ref n :: st) (hp_set h n (.inl (t, a0))) (n + 1) P) : ev_Run G l d (bc + 1) (bs + N) M pc L (.int x :: st) h n P := by
  subst hty
  subst hx
  intro p e s m args below meth c R Q H locs cells slots ls C hf hlo hc hs hL hH hS hk
  have hbb := C.2.2.2.2.2.2.2.1.2.2.2.2.2.2.2.1
  obtain ⟨cA, hq, -, hRA⟩ := ev_tyOf C.2.2.2.2.2.2.2.1 ht
  refine va_newaK C.1 C.2.1 (C.2.2.2.2.2.2.1 _ hw) rfl hd rfl (nI_pos hN2) (nI_clamp hN2) hN (by omega) (by omega) hH.1 fun H1 cA' e1 z1 o1 hAr hNm => ?_
  have hcA : cA' = cA := by
    have hRA' : s.vm.findClass ("[" ++ (newarray.typeOf atype).toString) = some cA := by
      cases atype <;> exact hRA
    exact Option.some.inj (hNm.symm.trans hRA')
  subst hcA
  refine kk p e s m args below meth c R Q H1 locs (cells + 1) (slots + N) ls C hf hlo (by omega) (by omega) hL (hH.push hbb z1 o1 ⟨_, hq, ?_⟩) ⟨by have := hS.1; have := hH.1; omega, fun x h1 h2 => (o1 x (by have := hS.1; have := hH.1; omega)).trans (hS.2.1 x h1 h2), hS.2.2⟩ (fun v h' n' H' locs' cells' slots' pc' ls' q q1 q2 q3 q4 q5 => hk v h' n' H' locs' cells' slots' pc' ls' q q1 q2 (by omega) (by omega) q5)
  rw [ha]
  exact e1
theorem ev_newq {i t N : Nat} {E : String} {x : Int32} (hd : decode M.2.1 pc = .ok (.anewarray i, 3)) (ht : ev_tys[t]? = some (.object E)) (hw : Cond.classLink M.1.cls i E ∈ ev_T) (hao : E ∈ ev_ao) (hx : x = nI N) (hN : N * 4 ≤ 536870912) (kk : ev_Run G l d bc bs M (pc + 3) L (.ref n :: st) (hp_set h n (.inl (t, N, .inr (.inr (.inr (.inr (fun _ => none))))))) (n + 1) P) : ev_Run G l d (bc + 1) (bs + N) M pc L (.int x :: st) h n P := by
  subst hx
  intro p e s m args below meth c R Q H locs cells slots ls C hf hlo hc hs hL hH hS hk
  have hbb := C.2.2.2.2.2.2.2.1.2.2.2.2.2.2.2.1
  obtain ⟨cA, hq, -, kA, comp, r1, r2, r3, r4⟩ := ev_tyOf C.2.2.2.2.2.2.2.1 ht
  have hcl : (nI N).toNatClampNeg = N := nI_clamp (by omega)
  refine W.anew C.1 C.2.1 C.2.2.2.2.2.1 (C.2.2.2.2.2.2.1 _ hw) (va_AO.use (C.2.2.2.2.2.2.2.1.2.2.1 E hao)) rfl hd rfl (nI_pos (by omega)) (by rw [hcl]; exact hN) (by omega) (by rw [hcl]; omega) fun cA' kA' comp' f1 f2 f3 f4 => ?_
  have hcA : cA' = cA := Option.some.inj (f1.symm.trans r4)
  subst hcA
  rw [hcl]
  generalize hH1 : H.push ({ cls := cA', slots := Array.replicate N .null, vm := .none } : Cell) = H1
  have z1 : H1.size = n + 1 := by rw [← hH1, Array.size_push, hH.1]
  have e1 : H1[n]? = some (arrV cA' N (fun _ => .null)) := by rw [← hH1, ← hH.1, Array.getElem?_push_size, ← arrV_new]
  have o1 : ∀ q : Nat, q < n → H1[q]? = H[q]? := fun q hq => by rw [← hH1, Array.getElem?_push, if_neg (by rw [hH.1]; exact Nat.ne_of_lt hq)]
  rw [hH.1]
  refine kk p e s m args below meth c R Q H1 locs (cells + 1) (slots + N) ls C hf hlo (by omega) (by omega) hL (hH.push hbb z1 o1 ⟨_, hq, ?_⟩) ⟨by have := hS.1; have := hH.1; omega, fun x h1 h2 => (o1 x (by have := hS.1; have := hH.1; omega)).trans (hS.2.1 x h1 h2), hS.2.2⟩ (fun v h' n' H' locs' cells' slots' pc' ls' q q1 q2 q3 q4 q5 => hk v h' n' H' locs' cells' slots' pc' ls' q q1 q2 (by omega) (by omega) q5)
  rw [vp_cell_q]
  exact e1
end EVH
/-! a method's contract for the kit; calls -/
def ev_Pc (G : xG) (As : List Value) (h : xH) (n : Nat) : Array Value → State → Prop := fun v U => v = As.toArray ∧ hp_R G h n U.heap ∧ ev_K G U
def ev_Qc (G : xG) (P : Option Value → xH → Nat → Prop) : Array Value → State → Outcome → State → Prop := fun _ st o t => (∃ (v : Option Value) (h' : xH) (n' : Nat), o = .returned v ∧ P v h' n' ∧ hp_R G h' n' t.heap) ∧ va_F (ev_A G) st t
theorem ev_blind {G : xG} {As : List Value} {h : xH} {n : Nat} : FrameBlind (ev_Pc G As h n) := fun _ _ _ _ q => ⟨q.1, q.2.1, ev_K.same rfl q.2.2⟩
def ev_psh (v : Option Value) (st : List Value) : List Value := match v with
  | none => st
  | some x => x :: st
theorem ev_psh_eq (v : Option Value) (st : List Value) : v.toList ++ st = ev_psh v st := by
  cases v <;> rfl
theorem ev_met {G : xG} {l : Launch} {d bc bs : Nat} {M : xM} {As : List Value} {mm : Nat} {h : xH} {n : Nat} {P : Option Value → xH → Nat → Prop} (hy : plainName M.1.cls = true) (hl : (lg_sl As).length ≤ M.2.2.1) (k : ev_Run G l d bc bs M 0 (ev_ent As ++ List.replicate mm none) [] h n P) :
    Met l M.1 (ev_ws M) ({ frames := d, cells := bc, slots := bs, locals := d * 40 }) (ev_Pc G As h n) (ev_Qc G P) bc bs (ev_A G) := by
  refine Met.ofW (cc := M.2.1) (maxL := M.2.2.1) (ret := M.2.2.2) hy rfl ?_
  intro p e s m args below meth c s₁ B hml hv
  obtain ⟨rfl, hR, hK⟩ := hv
  have hpre := atoms_spec (ws := ev_ws M) B.pre
  have hC : ev_Ctx G M p s m As.toArray meth c := ⟨B.exec, B.bytes, B.returns, B.notSynchronized, hml, findClass_of_methodNamed B.named, fun w hw => hpre w (List.mem_cons_of_mem _ hw), hK, (name_of_methodNamed B.named B.method).1, by rw [hR.1]; exact hR.2.1⟩
  have hlocks := B.notSynchronized
  rw [lg_entry_eq]
  refine k p e s m As.toArray below meth c _ _ s.heap [] 0 0 _ hC (Nat.le_refl _) (Nat.le_refl _) (by rw [Nat.zero_add]; exact Nat.le_refl _) (by rw [Nat.zero_add]; exact Nat.le_refl _) (ev_LR.ent hl mm) hR va_S.rf ?_
  intro v h' n' H' locs' cells' slots' pc' ls' hP hH' hS' hc' hs' hret
  refine W.widen (k := bc) (n := bs) (by omega) (by omega) ?_
  have hq : ∀ t : State, t.heap = H' → s.WarmedH t.vm → ev_Qc G P As.toArray s (.returned v) t := fun t ht hW => ⟨⟨v, h', n', rfl, hP, by rw [ht]; exact hH'⟩, hS'.F ht⟩
  cases v with
  | none => exact W.vret hC.1 hC.2.1 (hC.2.2.1.trans hret.2) hq hS'.2.2 hret.1
  | some x =>
    cases x with
    | int x =>
      obtain ⟨hd, ty, ht, hn⟩ := hret
      exact W.zret hC.1 hC.2.1 (hC.2.2.1.trans ht) hn hq hS'.2.2 hd
    | long x => exact W.lret hC.1 hC.2.1 (hC.2.2.1.trans hret.2) hq hS'.2.2 hret.1
    | float x => exact hret.elim
    | double x => exact hret.elim
    | null =>
      obtain ⟨hd, nm, ht⟩ := hret
      exact W.aret hC.1 hC.2.1 (hC.2.2.1.trans ht) (Or.inl ⟨nm, rfl⟩) (Or.inl rfl) hq hS'.2.2 hd
    | ref x =>
      obtain ⟨hd, nm, ht⟩ := hret
      exact W.aret hC.1 hC.2.1 (hC.2.2.1.trans ht) (Or.inl ⟨nm, rfl⟩) (Or.inr ⟨x, rfl⟩) hq hS'.2.2 hd
    | retAddr x => exact hret.elim
/-- what the tables say of a method that is called -/
def ev_ok (M : xM) (na : Nat) : Prop := Cond.code M.1 M.2.1 M.2.2.1 M.2.2.2 ∈ ev_T ∧ Cond.initialized M.1.cls ∈ ev_T ∧ (M.1.cls ≠ "java/lang/invoke/MethodHandle" ∧ M.1.cls ≠ "java/lang/invoke/VarHandle" ∧ (parseMethodDescriptor M.1.desc).map (fun d => d.parameters.length) = some na) ∧ plainName M.1.cls = true ∧ M.2.2.1 ≤ 21
theorem ev_goodIn {M : xM} {na : Nat} (hok : ev_ok M na) : GoodIn ev_T (ev_ws M) := fun w hw => by
  rcases List.mem_cons.mp hw with rfl | hw
  · exact ⟨hok.1, Or.inl rfl⟩
  · exact ⟨hw, ev_T_good w hw⟩
/-- behind a call -/
theorem ev_back {G : xG} {l : Launch} {d bc bs bc1 bs1 bc2 bs2 : Nat} {M : xM} {pc : Nat} {L : List (Option Value)} {st rest : List Value} {h : xH} {n : Nat} {P : Option Value → xH → Nat → Prop} {p : Program} {e : Env} {s : State} {m : MethodId} {args : Array Value} {below : List Frame} {meth : Method} {c : Code} {R : Room} {Q : State → Prop} {H : Heap} {locs : List Loc} {cells slots : Nat} {ls : Array Slot} {a : Array Value}
    (C : ev_Ctx G M p s m args meth c) (hf : d ≤ R.frames) (hlo : d * 40 ≤ R.locals) (hc : cells + bc ≤ R.cells) (hs : slots + bs ≤ R.slots) (hL : ev_LR ls M.2.2.1 L) (hH : hp_R G h n H) (hS : va_S (ev_A G) s.heap H locs)
    (hk : ∀ (v : Option Value) (h' : xH) (n' : Nat) (H' : Heap) (locs' : List Loc) (cells' slots' pc' : Nat) (ls' : Array Slot), P v h' n' → hp_R G h' n' H' → va_S (ev_A G) s.heap H' locs' → cells' ≤ cells + bc → slots' ≤ slots + bs → ev_ret M pc' v → W p l e R s m args below meth c H' locs' cells' slots' Q (F0 m pc' ls' v.toList))
    (hb1 : bc1 + bc2 = bc) (hb2 : bs1 + bs2 = bs)
    (hr : va_Run p l e R s m args below meth c H locs cells slots bc1 bs1 (F0 m pc ls st) rest (ev_Qc G (fun v h' n' => ev_Run G l d bc2 bs2 M (pc + 3) L (ev_psh v rest) h' n' P) a) (ev_A G)) :
    W p l e R s m args below meth c H locs cells slots Q (F0 m pc ls st) := by
  intro T hT X
  obtain ⟨v, st₀, t, T', LL, h0, X', hLL, e1, e2, ⟨⟨v', h', n', hv, hp, hR'⟩, hF⟩, stp⟩ := hr T hT X
  cases hv
  have hz : H.size ≤ T'.heap.size := by rw [e1, ← h0]; exact hF.1
  have hkp : ∀ q : Nat, q < H.size → ¬ ev_A G q → T'.heap[q]? = H[q]? := fun q h1 h2 => by rw [e1, ← h0]; exact hF.2 q (by rw [h0]; exact h1) h2
  have hS' : va_S (ev_A G) s.heap T'.heap (locs ++ LL) := ⟨Nat.le_trans hS.1 hz, fun q h1 h2 => (hkp q (Nat.lt_of_lt_of_le h1 hS.1) h2).trans (hS.2.1 q h1 h2), fun q hq => by
    rcases List.mem_append.mp hq with hq | hq
    · exact hS.2.2 q hq
    · exact hLL q hq⟩
  rw [ev_psh_eq] at stp
  obtain ⟨t2, a1, b1⟩ := hp p e s m args below meth c R Q T'.heap (locs ++ LL) (cells + bc1) (slots + bs1) ls C hf hlo (by omega) (by omega) hL (by rw [e1]; exact hR') hS' (fun v h' n' H' locs' cells' slots' pc' ls' q q1 q2 q3 q4 q5 => hk v h' n' H' locs' cells' slots' pc' ls' q q1 q2 (by omega) (by omega) q5) T' rfl X'
  exact ⟨t2, stp t2 a1, b1⟩
section EVC
variable {G : xG} {l : Launch} {d bc bs bc1 bs1 bc2 bs2 : Nat} {M M' : xM} {pc : Nat} {L : List (Option Value)} {st rest : List Value} {h : xH} {n : Nat} {P : Option Value → xH → Nat → Prop} {i na mm b ci : Nat} {As : List Value} {fs : List Value}
theorem ev_callV (hd : decode M.2.1 pc = .ok (.invokevirtual i, 3)) (hok : ev_ok M' na) (hin : Cond.instanceMethod M'.1 ∈ ev_T) (hse : Cond.selects M'.1.cls M'.1 M'.1 ∈ ev_T) (hl : Cond.methodLink M.1.cls i M'.1 ∈ ev_T) (hb : h b = some (.inr (ci, fs))) (hci : (vwCl[ci]?).map (fun q => q.1) = some M'.1.cls) (hst : st = As.reverse ++ .ref b :: rest) (hn : As.length = na) (hW : (rest.map fun v => v.category).sum ≤ 8) (hsl : (lg_sl (.ref b :: As)).length ≤ M'.2.2.1) (hb1 : bc1 + bc2 = bc) (hb2 : bs1 + bs2 = bs)
    (k : ev_Run G l d bc1 bs1 M' 0 (ev_ent (.ref b :: As) ++ List.replicate mm none) [] h n (fun v h' n' => ev_Run G l (d + 1) bc2 bs2 M (pc + 3) L (ev_psh v rest) h' n' P)) : ev_Run G l (d + 1) bc bs M pc L st h n P := by
  intro p e s m args below meth c R Q H locs cells slots ls C hf hlo hc hs hL hH hS hk
  subst hst
  have hts := C.2.2.2.2.2.2.1
  have hM := ev_met (bc := bc1) (bs := bs1) hok.2.2.2.1 hsl k
  refine ev_back C hf hlo hc hs hL hH hS hk hb1 hb2 (va_runV (C := M'.1.cls) (As := As) (b := b) ⟨C.1, C.2.1, C.2.2.2.2.1, C.2.2.2.2.2.1, hts⟩ hM ⟨callB_of na hts (ev_goodIn hok) rfl rfl rfl (hts _ hok.2.1) (hts _ hl) hok.2.2.1 ⟨hf, by have := hok.2.2.2.2; show 8 + (M'.2.2.1 + 11) + d * 40 ≤ _; omega⟩, hts _ hin, hts _ hse⟩ ⟨ev_blind, ?_, fun U hU hW' => ⟨rfl, by rw [hU]; exact hH, C.2.2.2.2.2.2.2.1.warm hW'⟩⟩ rfl hn hL.1 rfl (lv_room hW) hd ⟨by omega, by omega⟩)
  cases hq : vwCl[ci]? with
  | none => rw [hq] at hci; cases hci
  | some q =>
    rw [hq] at hci
    have hq1 : q.1 = M'.1.cls := Option.some.inj hci
    have := va_recv (ws := [(b, .inr (ci, fs))]) (q0 := 0) C.2.2.2.2.2.2.2.1.1 (ev_one (hH.2.2.2 b _ hb).2) hq rfl
    rw [hq1] at this
    exact this
theorem ev_callS (hd : decode M.2.1 pc = .ok (.invokestatic i, 3)) (hok : ev_ok M' na) (hst' : Cond.static M'.1 ∈ ev_T) (hl : Cond.methodLink M.1.cls i M'.1 ∈ ev_T) (hst : st = As.reverse ++ rest) (hn : As.length = na) (hW : (rest.map fun v => v.category).sum ≤ 8) (hsl : (lg_sl As).length ≤ M'.2.2.1) (hb1 : bc1 + bc2 = bc) (hb2 : bs1 + bs2 = bs)
    (k : ev_Run G l d bc1 bs1 M' 0 (ev_ent As ++ List.replicate mm none) [] h n (fun v h' n' => ev_Run G l (d + 1) bc2 bs2 M (pc + 3) L (ev_psh v rest) h' n' P)) : ev_Run G l (d + 1) bc bs M pc L st h n P := by
  intro p e s m args below meth c R Q H locs cells slots ls C hf hlo hc hs hL hH hS hk
  subst hst
  have hts := C.2.2.2.2.2.2.1
  have hM := ev_met (bc := bc1) (bs := bs1) hok.2.2.2.1 hsl k
  exact ev_back C hf hlo hc hs hL hH hS hk hb1 hb2 (va_runS (As := As) ⟨C.1, C.2.1, C.2.2.2.2.1, C.2.2.2.2.2.1, hts⟩ hM ⟨callB_of na hts (ev_goodIn hok) rfl rfl rfl (hts _ hok.2.1) (hts _ hl) hok.2.2.1 ⟨hf, by have := hok.2.2.2.2; show 8 + (M'.2.2.1 + 11) + d * 40 ≤ _; omega⟩, hts _ hst'⟩ ⟨ev_blind, fun U hU hW' => ⟨rfl, by rw [hU]; exact hH, C.2.2.2.2.2.2.2.1.warm hW'⟩⟩ rfl hn hL.1 rfl (lv_room hW) hd ⟨by omega, by omega⟩)
theorem ev_callI (hd : decode M.2.1 pc = .ok (.invokespecial i, 3)) (hok : ev_ok M' na) (hrt : M'.2.2.2 = none) (hnm : M'.1.name = "<init>") (hin : Cond.instanceMethod M'.1 ∈ ev_T) (hl : Cond.methodLink M.1.cls i M'.1 ∈ ev_T) (hst : st = As.reverse ++ .ref b :: rest) (hn : As.length = na) (hW : (rest.map fun v => v.category).sum ≤ 8) (hsl : (lg_sl (.ref b :: As)).length ≤ M'.2.2.1) (hb1 : bc1 + bc2 = bc) (hb2 : bs1 + bs2 = bs)
    (k : ev_Run G l d bc1 bs1 M' 0 (ev_ent (.ref b :: As) ++ List.replicate mm none) [] h n (fun v h' n' => ev_Run G l (d + 1) bc2 bs2 M (pc + 3) L (ev_psh v rest) h' n' P)) : ev_Run G l (d + 1) bc bs M pc L st h n P := by
  intro p e s m args below meth c R Q H locs cells slots ls C hf hlo hc hs hL hH hS hk
  subst hst
  obtain ⟨y, cc, ml, rt⟩ := M'
  cases hrt
  have hts := C.2.2.2.2.2.2.1
  have hM := ev_met (bc := bc1) (bs := bs1) hok.2.2.2.1 hsl k
  exact ev_back C hf hlo hc hs hL hH hS hk hb1 hb2 (va_runI (As := As) (b := b) ⟨C.1, C.2.1, C.2.2.2.2.1, C.2.2.2.2.2.1, hts⟩ hM ⟨callB_of na hts (ev_goodIn hok) rfl rfl rfl (hts _ hok.2.1) (hts _ hl) hok.2.2.1 ⟨hf, by have : ml ≤ 21 := hok.2.2.2.2; show 8 + (ml + 11) + d * 40 ≤ _; omega⟩, hnm, hts _ hin⟩ ⟨ev_blind, fun U hU hW' => ⟨rfl, by rw [hU]; exact hH, C.2.2.2.2.2.2.2.1.warm hW'⟩⟩ rfl hn hL.1 rfl (lv_room hW) hd ⟨by omega, by omega⟩)
theorem ev_callIN {host : String} (hd : decode M.2.1 pc = .ok (.invokespecial i, 3)) (hok : ev_ok M' na) (hrt : M'.2.2.2 = none) (hnm : M'.1.name = "<init>") (hin : Cond.instanceMethod M'.1 ∈ ev_T) (hl : (M.1.cls, i, M'.1, host) ∈ ev_nm) (hst : st = As.reverse ++ .ref b :: rest) (hn : As.length = na) (hW : (rest.map fun v => v.category).sum ≤ 8) (hsl : (lg_sl (.ref b :: As)).length ≤ M'.2.2.1) (hb1 : bc1 + bc2 = bc) (hb2 : bs1 + bs2 = bs)
    (k : ev_Run G l d bc1 bs1 M' 0 (ev_ent (.ref b :: As) ++ List.replicate mm none) [] h n (fun v h' n' => ev_Run G l (d + 1) bc2 bs2 M (pc + 3) L (ev_psh v rest) h' n' P)) : ev_Run G l (d + 1) bc bs M pc L st h n P := by
  intro p e s m args below meth c R Q H locs cells slots ls C hf hlo hc hs hL hH hS hk
  subst hst
  obtain ⟨y, cc, ml, rt⟩ := M'
  cases hrt
  have hts := C.2.2.2.2.2.2.1
  have hM := ev_met (bc := bc1) (bs := bs1) hok.2.2.2.1 hsl k
  exact ev_back C hf hlo hc hs hL hH hS hk hb1 hb2 (va_runIN (As := As) (b := b) ⟨C.1, C.2.1, C.2.2.2.2.1, C.2.2.2.2.2.1, hts⟩ hM ⟨va_cnB na hts (ev_goodIn hok) rfl rfl rfl (C.2.2.2.2.2.2.2.1.2.1 _ hl) (hts _ hok.2.1) hok.2.2.1 ⟨hf, by have : ml ≤ 21 := hok.2.2.2.2; show 8 + (ml + 11) + d * 40 ≤ _; omega⟩, hnm, hts _ hin⟩ ⟨ev_blind, fun U hU hW' => ⟨rfl, by rw [hU]; exact hH, C.2.2.2.2.2.2.2.1.warm hW'⟩⟩ rfl hn hL.1 rfl (lv_room hW) hd ⟨by omega, by omega⟩)
/-- Object.<init> -/
theorem ev_obj (hd : decode M.2.1 pc = .ok (.invokespecial i, 3)) (hl : Cond.methodLink M.1.cls i Lib.objectInit ∈ ev_T) (hin : Cond.instanceMethod Lib.objectInit ∈ ev_T) (hco : Cond.code Lib.objectInit ⟨#[0xb1]⟩ 1 none ∈ ev_T) (hW : (rest.map fun v => v.category).sum ≤ 8) (k : ev_Run G l (d + 1) bc bs M (pc + 3) L rest h n P) : ev_Run G l (d + 1) bc bs M pc L (.ref b :: rest) h n P := by
  intro p e s m args below meth c R Q H locs cells slots ls C hf hlo hc hs hL hH hS hk
  have hts := C.2.2.2.2.2.2.1
  exact W.objInit C.1 C.2.1 C.2.2.2.2.2.1 (hts _ hl) (hts _ hin) (hts _ hco) rfl (hL.1.trans C.2.2.2.2.1.symm) rfl hd (by omega) (by show 2 * 0 + _ + 12 ≤ _; omega) (k p e s m args below meth c R Q H locs cells slots ls C hf hlo hc hs hL hH hS hk)
end EVC
section EVX
variable {G : xG} {l : Launch} {d bc bs : Nat} {M : xM} {pc : Nat} {L : List (Option Value)} {st : List Value} {h : xH} {n : Nat} {P : Option Value → xH → Nat → Prop}
theorem ev_zald {t a N j : Nat} {f : Nat → Int32} {i : Int32} (hd : decode M.2.1 pc = .ok (.baload, 1)) (ha : h a = some (.inl (t, N, .inl f))) (ht : ev_tys[t]? = some .boolean) (hi : i = nI j) (hj : j < N) (hN : N < 2 ^ 31) (kk : ev_Run G l d bc bs M (pc + 1) L (.int (f j) :: st) h n P) : ev_Run G l d bc bs M pc L (.int i :: .ref a :: st) h n P := by
  subst hi
  intro p e s m args below meth c R Q H locs cells slots ls C hf hlo hc hs hL hH hS hk
  obtain ⟨q, hq, hcell⟩ := (hH.2.2.2 a _ ha).2
  obtain ⟨cA, hq', -, -⟩ := ev_tyOf C.2.2.2.2.2.2.2.1 ht
  cases hq.symm.trans hq'
  have hin : vp_in (nI j) N := vp_in_nI hj hN
  refine va_zald (D := xD G) (cl := vwCl) (tys := xTy G) (ws := [(a, .inl (cA, N, .inl f))]) C.1 C.2.1 C.2.2.2.2.2.2.2.1.1 (ev_one hcell) 0 t rfl hq hin hd ?_
  rw [nI_clamp (by omega)]
  exact kk p e s m args below meth c R Q H locs cells slots ls C hf hlo hc hs hL hH hS hk
theorem ev_zast {t a N j : Nat} {f : Nat → Int32} {i x : Int32} (hd : decode M.2.1 pc = .ok (.bastore, 1)) (ha : h a = some (.inl (t, N, .inl f))) (ht : ev_tys[t]? = some .boolean) (hi : i = nI j) (hj : j < N) (hN : N < 2 ^ 31) (hx : narrow .boolean (.int x) = .int x) (kk : ev_Run G l d bc bs M (pc + 1) L st (hp_set h a (.inl (t, N, .inl (upd f j x)))) n P) : ev_Run G l d bc bs M pc L (.int x :: .int i :: .ref a :: st) h n P := by
  subst hi
  intro p e s m args below meth c R Q H locs cells slots ls C hf hlo hc hs hL hH hS hk
  obtain ⟨hab, q, hq, hcell⟩ := hH.2.2.2 a _ ha
  obtain ⟨cA, hq', hAr, -⟩ := ev_tyOf C.2.2.2.2.2.2.2.1 ht
  cases hq.symm.trans hq'
  have hbb := C.2.2.2.2.2.2.2.1.2.2.2.2.2.2.2.1
  have hin : vp_in (nI j) N := vp_in_nI hj hN
  refine W.zast C.1 C.2.1 hcell (hAr N (fun j => .int (f j))) (fun q => by cases q) (by show ¬ (nI j < 0 ∨ (arrV _ _ _).slots.size ≤ _); rw [arrV_size]; exact hin) rfl rfl hd fun H1 e1 z oq => ?_
  refine kk p e s m args below meth c R Q H1 _ cells slots ls C hf hlo hc hs hL (hH.put hab hbb z oq ⟨_, hq, ?_⟩) (hS.put z oq hab) hk
  rw [e1, vp_cell_i, vp_cell_i, hx, arrV_store, nI_clamp (by omega)]
  congr 2
  funext y
  by_cases hy : y = j
  · subst hy
    simp [updV, upd]
  · simp [updV, upd, hy]
theorem ev_mmax {i : Nat} {x y : Int32} (hd : decode M.2.1 pc = .ok (.invokestatic i, 3)) (hl : Cond.methodLink M.1.cls i Lib.Math.max.name ∈ ev_T) (h1 : Cond.static Lib.Math.max.name ∈ ev_T) (h2 : Cond.initialized "java/lang/Math" ∈ ev_T) (h3 : Cond.code Lib.Math.max.name Lib.Math.max.code 2 (some .int) ∈ ev_T) (hW : (st.map fun v => v.category).sum ≤ 8) (k : ev_Run G l (d + 1) bc bs M (pc + 3) L (.int (if x < y then y else x) :: st) h n P) : ev_Run G l (d + 1) bc bs M pc L (.int y :: .int x :: st) h n P := by
  intro p e s m args below meth c R Q H locs cells slots ls C hf hlo hc hs hL hH hS hk
  have hts := C.2.2.2.2.2.2.1
  exact va_mmax C.1 C.2.1 (C.2.2.2.2.1.trans hL.1.symm) C.2.2.2.2.2.1 (hts _ hl) (hts _ h1) (hts _ h2) (hts _ h3) (by omega) (by omega) (by omega) (by omega) hd (k p e s m args below meth c R Q H locs cells slots ls C hf hlo hc hs hL hH hS hk)
theorem ev_mminl {i : Nat} {x y : Int64} (hd : decode M.2.1 pc = .ok (.invokestatic i, 3)) (hl : Cond.methodLink M.1.cls i Lib.MathLoose.min_long.x ∈ ev_T) (h1 : Cond.static Lib.MathLoose.min_long.x ∈ ev_T) (h2 : Cond.initialized "java/lang/Math" ∈ ev_T) (h3 : Cond.code Lib.MathLoose.min_long.x Lib.MathLoose.min_long.code 4 (some .long) ∈ ev_T) (hW : (st.map fun v => v.category).sum ≤ 8) (k : ev_Run G l (d + 1) bc bs M (pc + 3) L (.long (if y < x then y else x) :: st) h n P) : ev_Run G l (d + 1) bc bs M pc L (.long y :: .long x :: st) h n P := by
  intro p e s m args below meth c R Q H locs cells slots ls C hf hlo hc hs hL hH hS hk
  have hts := C.2.2.2.2.2.2.1
  exact va_mmin_long C.1 C.2.1 (C.2.2.2.2.1.trans hL.1.symm) C.2.2.2.2.2.1 (hts _ hl) (hts _ h1) (hts _ h2) (hts _ h3) (by omega) (by omega) (by omega) (by omega) hd (k p e s m args below meth c R Q H locs cells slots ls C hf hlo hc hs hL hH hS hk)
/-- every cell that there is lies below n -/
theorem ev_lt (k : (∀ (a : Nat) (e : xE), h a = some e → a < n) → ev_Run G l d bc bs M pc L st h n P) : ev_Run G l d bc bs M pc L st h n P :=
  fun p e s m args below meth c R Q H locs cells slots ls C hf hlo hc hs hL hH hS hk => k (fun _ _ ha => hH.lt ha) p e s m args below meth c R Q H locs cells slots ls C hf hlo hc hs hL hH hS hk
end EVX
