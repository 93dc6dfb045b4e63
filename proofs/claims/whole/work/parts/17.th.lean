/-! a thing: kind, mark, day, grams told, lost, held, warmest, layers -/
abbrev sT : Type := Nat × Nat × Nat × Nat × Nat × Nat × Nat × sL
abbrev t_kind (t : sT) : Nat := t.1
abbrev t_mark (t : sT) : Nat := t.2.1
abbrev t_day (t : sT) : Nat := t.2.2.1
abbrev t_told (t : sT) : Nat := t.2.2.2.1
abbrev t_lost (t : sT) : Nat := t.2.2.2.2.1
abbrev t_held (t : sT) : Nat := t.2.2.2.2.2.1
abbrev t_warm (t : sT) : Nat := t.2.2.2.2.2.2.1
abbrev t_ls (t : sT) : sL := t.2.2.2.2.2.2.2
def t_setL (t : sT) (ls : sL) : sT := (t.1, t.2.1, t.2.2.1, t.2.2.2.1, t.2.2.2.2.1, t.2.2.2.2.2.1, t.2.2.2.2.2.2.1, ls)
def t_setW (t : sT) (w : Nat) : sT := (t.1, t.2.1, t.2.2.1, t.2.2.2.1, t.2.2.2.2.1, t.2.2.2.2.2.1, w, t.2.2.2.2.2.2.2)
abbrev Th_c (la : Nat) (t : sT) : xE := .inr (6, [.int (nI (t_kind t)), .int (nI (t_mark t)), .int (nI (t_day t)), .ref la, .long (lN (t_told t)), .long (lN (t_lost t)), .int (nI (t_held t)), .int (nI (t_warm t))])
def Th (h : xH) (a la ia ga : Nat) (t : sT) : Prop := h a = some (Th_c la t) ∧ La h la ia ga (t_ls t)
theorem Th.keep {h h' : xH} {S : List Nat} {a la ia ga : Nat} {t : sT} (hL : Th h a la ia ga t) (ho : hp_off S h h') (h0 : a ∉ S) (h1 : la ∉ S) (h2 : ia ∉ S) (h3 : ga ∉ S) : Th h' a la ia ga t := ⟨(ho a h0).trans hL.1, hL.2.keep ho h1 h2 h3⟩
theorem nI_max {x y : Nat} (hx : x < 2 ^ 31) (hy : y < 2 ^ 31) : (if nI x < nI y then nI y else nI x) = nI (max x y) := by
  rcases Nat.lt_or_ge x y with h | h
  · rw [if_pos ((nI_ltI hx hy).mpr h), Nat.max_eq_right (by omega)]
  · rw [if_neg (fun z => absurd ((nI_ltI hx hy).mp z) (by omega)), Nat.max_eq_left h]
section TH
variable {G : xG} {l : Launch} {d bc bs : Nat} {h : xH} {n : Nat} {P : Option Value → xH → Nat → Prop}
set_option maxRecDepth 20000 in
theorem La_init_ok {la : Nat} (h1 : h la = some (.inr (1, [.null, .null, .int 0]))) (hk : ∀ h', La h' la n (n + 1) [] → hp_off [la, n, n + 1] h h' → P none h' (n + 2)) : ev_Run G l (d + 1) (bc + 2) (bs + 160) mLa_init 0 [some (.ref la)] [] h n P := by
  refine ev_lt (fun hlt => ?_)
  have hla := hlt _ _ h1
  have e1 : la ≠ n := by omega
  have e2 : la ≠ n + 1 := by omega
  refine ev_aload_n dLa_init_0 rfl rfl ?_
  refine ev_obj dLa_init_1 lLa_3 ob_1 ob_2 (Nat.le_of_ble_eq_true rfl) ?_
  refine ev_aload_n dLa_init_4 rfl rfl ?_
  refine ev_bipush (v := nI 80) dLa_init_5 (by decide) ?_
  refine ev_newa (ty := .int) (t := 0) (N := 80) (a0 := (80, .inl fun _ => 0)) dLa_init_7 rfl (fun _ h9 => by cases h9) rfl a_int (fun _ => rfl) rfl (by decide) (by decide) ?_
  refine ev_putF dLa_init_9 fLa_9 tLa_0 rfl ((hp_set_ne _ _ e1).trans h1) rfl rfl (Nat.le_of_ble_eq_true rfl) ?_
  refine ev_aload_n dLa_init_12 rfl rfl ?_
  refine ev_bipush (v := nI 80) dLa_init_13 (by decide) ?_
  refine ev_newa (ty := .long) (t := 1) (N := 80) (a0 := (80, .inr (.inl fun _ => 0))) dLa_init_15 rfl (fun _ h9 => by cases h9) rfl a_long (fun _ => rfl) rfl (by decide) (by decide) ?_
  refine ev_putF dLa_init_17 fLa_15 tLa_1 rfl ((hp_set_ne _ _ e2).trans (hp_set_self _ _ _)) rfl rfl (Nat.le_of_ble_eq_true rfl) ?_
  refine ev_vret dLa_init_20 rfl ?_
  skip
  refine hk _ ⟨fun _ => 0, fun _ => 0, (hp_set_self _ _ _).trans rfl, (hp_set_ne _ _ (by omega)).trans ((hp_set_ne _ _ (by omega)).trans ((hp_set_ne _ _ (by omega)).trans (hp_set_self _ _ _))), (hp_set_ne _ _ (by omega)).trans (hp_set_self _ _ _), by simp, fun k p hp => by simp at hp⟩ ((((hp_off.rf.set (by simp)).set (by simp)).set (by simp)).set (by simp))
set_option maxRecDepth 20000 in
theorem Th_init_ok {a : Nat} {k m y : Nat} (h1 : h a = some (.inr (6, [.int 0, .int 0, .int 0, .null, .long 0, .long 0, .int 0, .int 0]))) (hk : ∀ h', Th h' a n (n + 1) (n + 2) (k, m, y, 0, 0, 0, 0, []) → hp_off [a, n, n + 1, n + 2] h h' → P none h' (n + 3)) : ev_Run G l (d + 2) (bc + 3) (bs + 163) mTh_init 0 [some (.ref a), some (.int (nI k)), some (.int (nI m)), some (.int (nI y))] [] h n P := by
  refine ev_lt (fun hlt => ?_)
  have hla := hlt _ _ h1
  refine ev_aload_n dTh_init_0 rfl rfl ?_
  refine ev_obj dTh_init_1 lTh_3 ob_1 ob_2 (Nat.le_of_ble_eq_true rfl) ?_
  refine ev_aload_n dTh_init_4 rfl rfl ?_
  refine ev_iload_n dTh_init_5 rfl rfl ?_
  refine ev_putF dTh_init_6 fTh_9 tTh_0 rfl h1 rfl rfl (Nat.le_of_ble_eq_true rfl) ?_
  refine ev_aload_n dTh_init_9 rfl rfl ?_
  refine ev_iload_n dTh_init_10 rfl rfl ?_
  refine ev_putF dTh_init_11 fTh_15 tTh_1 rfl (hp_set_self _ _ _) rfl rfl (Nat.le_of_ble_eq_true rfl) ?_
  refine ev_aload_n dTh_init_14 rfl rfl ?_
  refine ev_iload_n dTh_init_15 rfl rfl ?_
  refine ev_putF dTh_init_16 fTh_18 tTh_2 rfl (hp_set_self _ _ _) rfl rfl (Nat.le_of_ble_eq_true rfl) ?_
  refine ev_aload_n dTh_init_19 rfl rfl ?_
  refine ev_new (bs := bs+160) (N := 3) dTh_init_20 nTh_21 ?_
  refine ev_dup dTh_init_23 rfl ?_
  refine ca_La_init dTh_init_24 lTh_23 (Nat.le_of_ble_eq_true rfl) (bc1 := 2) (bs1 := 160) (bc2 := bc) (bs2 := bs) (by omega) (by omega) (La_init_ok (hp_set_self _ _ _) (fun h2 q1 q2 => ?_))
  refine ev_putF dTh_init_27 fTh_24 tTh_3 rfl ((q2 _ (by simp; omega)).trans ((hp_set_ne _ _ (by omega)).trans (hp_set_self _ _ _))) rfl rfl (Nat.le_of_ble_eq_true rfl) ?_
  refine ev_vret dTh_init_30 rfl ?_
  skip
  refine hk _ ⟨(hp_set_self _ _ _).trans rfl, ?_⟩ ?_
  · exact q1.keep (hp_off.rf.set (S := [a]) (by simp)) (by simp; omega) (by simp; omega) (by simp; omega)
  · refine fun q hq => ?_
    simp only [List.mem_cons, List.not_mem_nil, or_false, not_or] at hq
    refine (hp_set_ne _ _ hq.1).trans ((q2 q (by simp; omega)).trans ?_)
    exact (hp_set_ne _ _ hq.2.1).trans ((hp_set_ne _ _ hq.1).trans ((hp_set_ne _ _ hq.1).trans (hp_set_ne _ _ hq.1)))
set_option maxRecDepth 20000 in
set_option maxHeartbeats 1000000 in
theorem Th_takeFrom_ok {a la ia ga b lb ib gb g0 : Nat} {t u : sT} (hT : Th h a la ia ga t) (hU : Th h b lb ib gb u) (hx0 : a ≠ b) (hx1 : lb ≠ la) (hx2 : ib ≠ ia) (hx3 : gb ≠ ga) (hb0 : sl_hb (t_ls t)) (hb1 : sl_hb (t_ls u)) (hb : sl_gb (t_ls u)) (hg : g0 < 2 ^ 62) (hw1 : t_warm t < 2 ^ 31) (hw2 : t_warm u < 2 ^ 31) (hlen : (sl_jl (t_ls t) (sl_tk (t_ls u) g0)).length ≤ 80)
    (hk : ∀ h', Th h' a la ia ga (t_setW (t_setL t (sl_jl (t_ls t) (sl_tk (t_ls u) g0))) (max (t_warm t) (t_warm u))) → Th h' b lb ib gb (t_setL u (sl_rs (t_ls u) g0)) → hp_off [a, la, ia, ga, lb, ib, gb] h h' → P none h' n) : ev_Run G l (d + 2) bc bs mTh_takeFrom 0 [some (.ref a), some (.ref b), some (.long (lN g0)), none] [] h n P := by
  obtain ⟨t1, tL⟩ := hT
  obtain ⟨u1, uL⟩ := hU
  obtain ⟨f, g, h1, h2, h3, -⟩ := id tL
  obtain ⟨f2, g2, i1, i2, i3, -⟩ := id uL
  have na : a ∉ [la, ia, ga] := fun z => by
    simp at z
    rcases z with rfl | rfl | rfl
    · rw [t1] at h1; cases h1
    · rw [t1] at h2; cases h2
    · rw [t1] at h3; cases h3
  have nb : b ∉ [la, ia, ga] := fun z => by
    simp at z
    rcases z with rfl | rfl | rfl
    · rw [u1] at h1; cases h1
    · rw [u1] at h2; cases h2
    · rw [u1] at h3; cases h3
  have na2 : a ∉ [lb, ib, gb] := fun z => by
    simp at z
    rcases z with rfl | rfl | rfl
    · rw [t1] at i1; cases i1
    · rw [t1] at i2; cases i2
    · rw [t1] at i3; cases i3
  have nb2 : b ∉ [lb, ib, gb] := fun z => by
    simp at z
    rcases z with rfl | rfl | rfl
    · rw [u1] at i1; cases i1
    · rw [u1] at i2; cases i2
    · rw [u1] at i3; cases i3
  have nL : lb ∉ [la, ia, ga] ∧ ib ∉ [la, ia, ga] ∧ gb ∉ [la, ia, ga] := by
    refine ⟨fun z => ?_, fun z => ?_, fun z => ?_⟩ <;> simp at z <;> rcases z with z | z | z <;> first | exact hx1 z | exact hx2 z | exact hx3 z | (subst z; simp_all)
  have nT : la ∉ [lb, ib, gb] ∧ ia ∉ [lb, ib, gb] ∧ ga ∉ [lb, ib, gb] := by
    refine ⟨fun z => ?_, fun z => ?_, fun z => ?_⟩ <;> simp at z <;> rcases z with z | z | z <;> first | exact hx1 z.symm | exact hx2 z.symm | exact hx3 z.symm | (subst z; simp_all)
  refine ev_aload_n dTh_takeFrom_0 rfl rfl ?_
  refine ev_get dTh_takeFrom_1 fTh_24 t1 rfl ?_
  refine ev_aload_n dTh_takeFrom_4 rfl rfl ?_
  refine ev_get dTh_takeFrom_5 fTh_24 u1 rfl ?_
  refine ev_lload_n dTh_takeFrom_8 rfl rfl ?_
  refine cz_La_appendFront dTh_takeFrom_9 lTh_28 h1 (Nat.le_of_ble_eq_true rfl) (La_appendFront_ok tL uL hx1 hx2 hx3 hb0 hb1 hb hg hlen (fun h4 q1 q2 => ?_))
  refine ev_aload_n dTh_takeFrom_12 rfl rfl ?_
  refine ev_get dTh_takeFrom_13 fTh_24 ((q2 b nb).trans u1) rfl ?_
  refine ev_lload_n dTh_takeFrom_16 rfl rfl ?_
  refine cz_La_dropFront dTh_takeFrom_17 lTh_32 ((q2 lb nL.1).trans i1) (Nat.le_of_ble_eq_true rfl) (La_dropFront_ok (uL.keep q2 nL.1 nL.2.1 nL.2.2) hb hg (fun h5 q3 q4 => ?_))
  refine ev_aload_n dTh_takeFrom_20 rfl rfl ?_
  refine ev_aload_n dTh_takeFrom_21 rfl rfl ?_
  refine ev_get dTh_takeFrom_22 fTh_36 ((q4 a na2).trans ((q2 a na).trans t1)) rfl ?_
  refine ev_aload_n dTh_takeFrom_25 rfl rfl ?_
  refine ev_get dTh_takeFrom_26 fTh_36 ((q4 b nb2).trans ((q2 b nb).trans u1)) rfl ?_
  refine ev_mmax dTh_takeFrom_29 lTh_39 ma_max_1 ma_i ma_max_2 (Nat.le_of_ble_eq_true rfl) ?_
  refine ev_top (y := nI (max (t_warm t) (t_warm u))) (nI_max hw1 hw2) ?_
  refine ev_put dTh_takeFrom_32 fTh_36 tTh_7 ((q4 a na2).trans ((q2 a na).trans t1)) rfl rfl (Nat.le_of_ble_eq_true rfl) ?_
  refine ev_vret dTh_takeFrom_35 rfl ?_
  skip
  refine hk _ ⟨(hp_set_self _ _ _).trans rfl, ?_⟩ ⟨?_, ?_⟩ ?_
  · exact (q1.keep q4 nT.1 nT.2.1 nT.2.2).keep (hp_off.rf.set (S := [a]) (by simp)) (by simp; exact fun z => na (by simp [z])) (by simp; exact fun z => na (by simp [z])) (by simp; exact fun z => na (by simp [z]))
  · exact (hp_set_ne _ _ (Ne.symm hx0)).trans ((q4 b nb2).trans ((q2 b nb).trans u1))
  · exact q3.keep (hp_off.rf.set (S := [a]) (by simp)) (by simp; exact fun z => na2 (by simp [z])) (by simp; exact fun z => na2 (by simp [z])) (by simp; exact fun z => na2 (by simp [z]))
  · exact ((q2.mono (by simp)).tr (q4.mono (by simp))).set (by simp)
end TH
