theorem sl_jn_last (T : sL) (a x : Nat) : (sl_jn T a x).getLast?.map Prod.fst = some a := by
  rcases sl_last T with rfl | ⟨T0, q, rfl⟩
  · rfl
  · by_cases h : q.1 = a
    · rw [sl_jn_same h]; simp
    · rw [sl_jn_diff h]; simp
theorem sl_jl_dis : ∀ (r U : sL) (a : Nat), U.getLast?.map Prod.fst = some a → sl_ch a r → (sl_jl U r).length = U.length + r.length := by
  intro r
  induction r with
  | nil => intro U a _ _; simp [sl_jl]
  | cons p t ih =>
    intro U a hU hc
    have h1 := ih (sl_jn U p.1 p.2) p.1 (sl_jn_last _ _ _) hc.2
    have h2 : (sl_jn U p.1 p.2).length = U.length + 1 := by
      rcases sl_last U with rfl | ⟨T0, q, rfl⟩
      · cases hU
      · have : q.1 = a := by simpa using hU
        rw [sl_jn_diff (by rw [this]; exact fun z => hc.1 z.symm)]; simp
    show (sl_jl (sl_jn U p.1 p.2) t).length = _
    rw [h1, h2]; simp; omega
theorem sl_tk_ch : ∀ (s : sL) (a g : Nat), sl_ch a s → sl_ch a (sl_tk s g) := by
  intro s
  induction s with
  | nil => intro a g h; exact h
  | cons p t ih =>
    intro a g h
    unfold sl_tk
    split
    · trivial
    · split
      · exact ⟨h.1, ih _ _ h.2⟩
      · exact ⟨h.1, trivial⟩
theorem sl_sw_eq {T s : sL} {g : Nat} (hs : s ≠ []) (hg : 1 ≤ g) (ha : sl_ad s) : (sl_jl T (sl_tk s g)).length = sl_sw T s g := by
  cases s with
  | nil => exact absurd rfl hs
  | cons p t =>
    have e : ∃ x r, sl_tk (p :: t) g = (p.1, x) :: r ∧ sl_ch p.1 r := by
      unfold sl_tk
      rw [if_neg (by omega)]
      split
      · exact ⟨p.2, _, rfl, sl_tk_ch _ _ _ ha⟩
      · exact ⟨g, [], rfl, trivial⟩
    obtain ⟨x, r, he, hr⟩ := e
    have h1 : (sl_jl T (sl_tk (p :: t) g)).length = (sl_jn T p.1 x).length + r.length := by
      rw [he]
      exact sl_jl_dis r _ p.1 (sl_jn_last _ _ _) hr
    have hh : ((p :: t).head?.map Prod.fst) = some p.1 := rfl
    rw [h1]
    unfold sl_sw
    rw [hh, he]
    rcases sl_last T with rfl | ⟨T0, q, rfl⟩
    · simp [sl_jn]; omega
    · by_cases h : q.1 = p.1
      · rw [sl_jn_same h, if_pos ⟨by simp, by simp [h]⟩]; simp
      · rw [sl_jn_diff h, if_neg (fun z => h (by simpa using z.2))]; simp; omega
section BL4
variable {G : xG} {l : Launch} {d bc bs : Nat} {h h' : xH} {n : Nat} {P : Option Value → xH → Nat → Prop} {ad tg : Nat → Nat} {lr lq : Nat} {ts ts' : List sT} {S : List Nat}
theorem XT_upd (hX : XT h n ad tg lr lq ts) (hlen : ts'.length = ts.length) (ho : hp_off S h h') (hS : ∀ q ∈ S, n ≤ q ∨ ∃ k, 100 ≤ k ∧ k < 100 + 4 * ts.length ∧ q = ad k) (hT : ∀ i t, ts'[i]? = some t → Th h' (ad (100 + 4 * i)) (ad (101 + 4 * i)) (ad (102 + 4 * i)) (ad (103 + 4 * i)) t ∧ t_ok t) : XT h' n ad tg lr lq ts' ∧ FrT ad ad h h' := by
  obtain ⟨hA, h0, ⟨f, h1, hf1⟩, hl, -, hlr, hb⟩ := hX
  have out : ∀ k, ad_lv ts.length k → (k < 100 ∨ 1000 ≤ k) → ad k ∉ S := by
    intro k hk hk2 hq
    rcases hS _ hq with h9 | ⟨j, j1, j2, j3⟩
    · exact absurd (hb k hk) (by omega)
    · exact ad_ne hA hk (Or.inr (Or.inl ⟨j1, j2⟩)) (by omega) j3
  refine ⟨⟨by rw [hlen]; exact hA, by rw [hlen]; exact (ho _ (out 0 (Or.inl (by omega)) (by omega))).trans h0, ⟨f, (ho _ (out 1 (Or.inl (by omega)) (by omega))).trans h1, by rw [hlen]; exact hf1⟩, by rw [hlen]; exact hl, hT, hlr, by rw [hlen]; exact hb⟩, rfl, fun k hk => ⟨rfl, ho _ (out k ?_ (by omega))⟩⟩
  rcases hk with q | q
  · exact Or.inl q.2
  · exact Or.inr (Or.inr q)
/-- a thing that isn't touched -/
theorem XT_other {i : Nat} {t : sT} (hX : XT h n ad tg lr lq ts) (ho : hp_off S h h') (hi : ts[i]? = some t) (hS : ∀ q ∈ S, n ≤ q ∨ ∃ k, 100 ≤ k ∧ k < 100 + 4 * ts.length ∧ (k < 100 + 4 * i ∨ 104 + 4 * i ≤ k) ∧ q = ad k) : Th h' (ad (100 + 4 * i)) (ad (101 + 4 * i)) (ad (102 + 4 * i)) (ad (103 + 4 * i)) t ∧ t_ok t := by
  obtain ⟨hA, h0, -, hl, hT, hlr, hb⟩ := hX
  have hi' : i < ts.length := (List.getElem?_eq_some_iff.mp hi).1
  obtain ⟨u, o⟩ := hT i t hi
  have out : ∀ j, j < 4 → ad (100 + j + 4 * i) ∉ S := by
    intro j hj hq
    rcases hS _ hq with h9 | ⟨k, k1, k2, k3, k4⟩
    · exact absurd (hb _ (ad_th hi' hj)) (by omega)
    · exact ad_ne hA (ad_th hi' hj) (Or.inr (Or.inl ⟨k1, k2⟩)) (by omega) k4
  exact ⟨u.keep ho (out 0 (by omega)) (out 1 (by omega)) (out 2 (by omega)) (out 3 (by omega)), o⟩
/-- one thing anew -/
theorem XT_set {i : Nat} {t' : sT} (hX : XT h n ad tg lr lq ts) (hi : i < ts.length) (ho : hp_off S h h') (hS : ∀ q ∈ S, n ≤ q ∨ ∃ j, j < 4 ∧ q = ad (100 + j + 4 * i)) (hT : Th h' (ad (100 + 4 * i)) (ad (101 + 4 * i)) (ad (102 + 4 * i)) (ad (103 + 4 * i)) t') (hok : t_ok t') : XT h' n ad tg lr lq (ts.set i t') ∧ FrT ad ad h h' := by
  refine XT_upd hX (by simp) ho (fun q hq => ?_) (fun k t hk => ?_)
  · rcases hS q hq with h9 | ⟨j, j1, j2⟩
    · exact Or.inl h9
    · exact Or.inr ⟨_, by omega, by omega, j2⟩
  · by_cases hki : k = i
    · subst hki
      rw [List.getElem?_set_self hi] at hk
      cases hk
      exact ⟨hT, hok⟩
    · rw [List.getElem?_set_ne (Ne.symm hki)] at hk
      refine XT_other hX ho hk (fun q hq => ?_)
      rcases hS q hq with h9 | ⟨j, j1, j2⟩
      · exact Or.inl h9
      · exact Or.inr ⟨_, by omega, by omega, by omega, j2⟩
theorem ad_n1 {T i j : Nat} (hA : ad_ok ad tg T) (hi : i < T) (hj : j < 4) (h1 : 1 ≤ j) : ad (100 + j + 4 * i) ∉ [ad (100 + 4 * i)] := by
  simp; exact ad_ne hA (ad_th hi hj) (ad_th (j := 0) hi (by omega)) (by omega)
/-- the thing's own four addresses -/
theorem XT_set4 {i : Nat} {t' : sT} (hX : XT h n ad tg lr lq ts) (hi : i < ts.length) (ho : hp_off [ad (100 + 4 * i), ad (101 + 4 * i), ad (102 + 4 * i), ad (103 + 4 * i)] h h') (hT : Th h' (ad (100 + 4 * i)) (ad (101 + 4 * i)) (ad (102 + 4 * i)) (ad (103 + 4 * i)) t') (hok : t_ok t') : XT h' n ad tg lr lq (ts.set i t') ∧ FrT ad ad h h' := by
  refine XT_set hX hi ho (fun q hq => ?_) hT hok
  simp only [List.mem_cons, List.not_mem_nil, or_false] at hq
  rcases hq with rfl | rfl | rfl | rfl
  · exact Or.inr ⟨0, by omega, rfl⟩
  · exact Or.inr ⟨1, by omega, rfl⟩
  · exact Or.inr ⟨2, by omega, rfl⟩
  · exact Or.inr ⟨3, by omega, rfl⟩
theorem iI_in {x : Int32} {m : Nat} (hm : m < 2 ^ 31) (h1 : nI 1 ≤ x) (h2 : x ≤ nI m) : ∃ q : Nat, 1 ≤ q ∧ q ≤ m ∧ x = nI q := by
  have h0 : ¬ x < 0 := by
    rw [Int32.le_iff_toInt_le, nI_toInt (by omega)] at h1
    rw [Int32.lt_iff_toInt_lt, show (0 : Int32).toInt = 0 from rfl]; omega
  obtain ⟨j, hj, rfl⟩ := nI_of h0
  rw [nI_leI (by omega) hj] at h1
  rw [nI_leI hj hm] at h2
  exact ⟨j, h1, h2, rfl⟩
theorem XT_obj {i : Nat} {t t' : sT} (hX : XT h n ad tg lr lq ts) (hi : ts[i]? = some t) (he : t_ls t' = t_ls t) (hok : t_ok t') : XT (hp_set h (ad (100 + 4 * i)) (Th_c (ad (101 + 4 * i)) t')) n ad tg lr lq (ts.set i t') ∧ FrT ad ad h (hp_set h (ad (100 + 4 * i)) (Th_c (ad (101 + 4 * i)) t')) := by
  have hi' : i < ts.length := (List.getElem?_eq_some_iff.mp hi).1
  obtain ⟨⟨u1, u2⟩, o⟩ := hX.2.2.2.2.1 i t hi
  have hA := hX.1
  refine XT_set hX hi' (hp_off.rf.set (S := [ad (100 + 4 * i)]) (by simp)) (by simp; exact Or.inr ⟨0, by omega, rfl⟩) ⟨hp_set_self _ _ _, ?_⟩ hok
  rw [he]
  exact u2.keep (hp_off.rf.set (S := [ad (100 + 4 * i)]) (by simp)) (by simp; exact ad_ne hA (ad_th (j := 1) hi' (by omega)) (ad_th (j := 0) hi' (by omega)) (by omega)) (by simp; exact ad_ne hA (ad_th (j := 2) hi' (by omega)) (ad_th (j := 0) hi' (by omega)) (by omega)) (by simp; exact ad_ne hA (ad_th (j := 3) hi' (by omega)) (ad_th (j := 0) hi' (by omega)) (by omega))
def t_setH (t : sT) (b : Nat) : sT := (t.1, t.2.1, t.2.2.1, t.2.2.2.1, t.2.2.2.2.1, b, t.2.2.2.2.2.2.1, t.2.2.2.2.2.2.2)
def t_setX (t : sT) (b : Nat) : sT := (t.1, t.2.1, t.2.2.1, t.2.2.2.1, b, t.2.2.2.2.2.1, t.2.2.2.2.2.2.1, t.2.2.2.2.2.2.2)
def t_setG (t : sT) (b : Nat) : sT := (t.1, t.2.1, t.2.2.1, b, t.2.2.2.2.1, t.2.2.2.2.2.1, t.2.2.2.2.2.2.1, t.2.2.2.2.2.2.2)
def hold_s (ts : List sT) (x : Int32) (b : Nat) : Int32 × List sT := match fnd ts x with
  | none => (nI 0, ts)
  | some p => (nI 1, ts.set p.1 (t_setH p.2 b))
def warm_s (ts : List sT) (x e : Int32) : Int32 × List sT := match fnd ts x with
  | none => (nI 0, ts)
  | some p => if e < nI 1 ∨ nI 4000 < e then (nI 0, ts) else (nI 1, ts.set p.1 (t_setW p.2 (max (t_warm p.2) e.toNatClampNeg)))
def waste_s (ts : List sT) (x : Int32) (g : Int64) : Int64 × List sT := match fnd ts x with
  | none => (-1, ts)
  | some p => if lN 1 ≤ g ∧ g ≤ lN (sl_tot (t_ls p.2)) then (lN (t_lost p.2 + gN g), ts.set p.1 (t_setX (t_setL p.2 (sl_rs (t_ls p.2) (gN g))) (t_lost p.2 + gN g))) else (-1, ts)
theorem sl_tot_lt {ls : sL} (hb : sl_gb ls) (hl : ls.length ≤ 80) : sl_tot ls < 2 ^ 47 := by
  have : ∀ ls : sL, sl_gb ls → sl_tot ls ≤ ls.length * 10000000000 := by
    intro ls
    induction ls with
    | nil => intro _; simp [sl_tot]
    | cons p t ih =>
      intro h
      have h1 := ih (fun q hq => h q (List.mem_cons_of_mem _ hq))
      have h2 := (h p List.mem_cons_self).2
      simp [sl_tot] at h1 ⊢
      omega
  have := this ls hb
  omega
set_option maxRecDepth 20000 in
set_option maxHeartbeats 1000000 in
theorem BL_hold_ok {x : Int32} {b : Nat} (hX : XT h n ad tg lr lq ts) (hb : b ≤ 1) (hk : ∀ h' n' ad' tg', XT h' n' ad' tg' lr lq (hold_s ts x b).2 → FrT ad ad' h h' → n ≤ n' → P (some (.int (hold_s ts x b).1)) h' n') : ev_Run G l (d + 1) bc bs mBL_hold 0 [some (.ref (ad 0)), some (.int x), some (.int (nI b)), none] [] h n P := by
  obtain ⟨hA, h0, -, hl, hT, hlr, hbd⟩ := id hX
  have hnar : narrow .boolean (.int (nI b)) = .int (nI b) := by
    rcases (by omega : b = 0 ∨ b = 1) with rfl | rfl <;> rfl
  have hfit : fits .boolean (.int (nI b)) = true := by
    rcases (by omega : b = 0 ∨ b = 1) with rfl | rfl <;> rfl
  refine ev_aload_n dBL_hold_0 rfl rfl ?_
  refine ev_iload_n dBL_hold_1 rfl rfl ?_
  refine cz_BL_find dBL_hold_2 lBL_96 h0 (Nat.le_of_ble_eq_true rfl) (BL_find_ok hX (fun i t q2 => ?_) (fun q2 => ?_))
  · obtain ⟨hx1, hx2, hx3⟩ := fnd_some q2
    obtain ⟨⟨u1, u2⟩, o⟩ := hT i t hx2
    refine ev_astore_n dBL_hold_5 rfl (by decide) ?_
    refine ev_aload_n dBL_hold_6 rfl rfl ?_
    refine ev_ifnonnull (tgt := 12) dBL_hold_7 (by decide) ?_
    refine ev_aload_n dBL_hold_12 rfl rfl ?_
    refine ev_iload_n dBL_hold_13 rfl rfl ?_
    refine ev_put dBL_hold_14 fBL_103 tTh_6 u1 hnar hfit (Nat.le_of_ble_eq_true rfl) ?_
    refine ev_iconst (v := nI 1) dBL_hold_17 (by decide) ?_
    refine ev_iret dBL_hold_18 rfl rfl ?_
    rw [hold_s, q2] at hk
    have hi : i < ts.length := (List.getElem?_eq_some_iff.mp hx2).1
    have := XT_set (t' := t_setH t b) hX hi (hp_off.rf.set (S := [ad (100 + 4 * i)]) (by simp)) (by simp; exact Or.inr ⟨0, by omega, rfl⟩) ⟨hp_set_self _ _ _, u2.keep (hp_off.rf.set (S := [ad (100 + 4 * i)]) (by simp)) (by simp; exact ad_ne hA (ad_th (j := 1) hi (by omega)) (ad_th (j := 0) hi (by omega)) (by omega)) (by simp; exact ad_ne hA (ad_th (j := 2) hi (by omega)) (ad_th (j := 0) hi (by omega)) (by omega)) (by simp; exact ad_ne hA (ad_th (j := 3) hi (by omega)) (ad_th (j := 0) hi (by omega)) (by omega))⟩ ⟨o.1, o.2.1, o.2.2.1, o.2.2.2.1, o.2.2.2.2.1, hb, o.2.2.2.2.2.2⟩
    exact hk _ n ad tg this.1 this.2 (Nat.le_refl _)
  · refine ev_astore_nN dBL_hold_5 rfl (by decide) ?_
    refine ev_aload_nN dBL_hold_6 rfl rfl ?_
    refine ev_ifnonnullN dBL_hold_7 ?_
    refine ev_iconst (v := nI 0) dBL_hold_10 (by decide) ?_
    refine ev_iret dBL_hold_11 rfl rfl ?_
    rw [hold_s, q2] at hk
    exact hk h n ad tg hX FrT.rf (Nat.le_refl _)
set_option maxRecDepth 20000 in
set_option maxHeartbeats 1000000 in
theorem BL_warm_ok {x e : Int32} (hX : XT h n ad tg lr lq ts) (hk : ∀ h' n' ad' tg', XT h' n' ad' tg' lr lq (warm_s ts x e).2 → FrT ad ad' h h' → n ≤ n' → P (some (.int (warm_s ts x e).1)) h' n') : ev_Run G l (d + 1) bc bs mBL_warm 0 [some (.ref (ad 0)), some (.int x), some (.int e), none] [] h n P := by
  obtain ⟨hA, h0, -, hl, hT, hlr, hbd⟩ := id hX
  refine ev_aload_n dBL_warm_0 rfl rfl ?_
  refine ev_iload_n dBL_warm_1 rfl rfl ?_
  refine cz_BL_find dBL_warm_2 lBL_96 h0 (Nat.le_of_ble_eq_true rfl) (BL_find_ok hX (fun i t q2 => ?_) (fun q2 => ?_))
  · obtain ⟨hx1, hx2, hx3⟩ := fnd_some q2
    obtain ⟨⟨u1, u2⟩, o⟩ := hT i t hx2
    refine ev_astore_n dBL_warm_5 rfl (by decide) ?_
    refine ev_aload_n dBL_warm_6 rfl rfl ?_
    refine ev_ifnull dBL_warm_7 ?_
    refine ev_iload_n dBL_warm_10 rfl rfl ?_
    refine ev_iconst (v := nI 1) dBL_warm_11 (by decide) ?_
    refine ev_icmp_lt (tgt := 22) dBL_warm_12 (by decide) (fun c12 => ?_) (fun c12 => ?_)
    · refine ev_iconst (v := nI 0) dBL_warm_22 (by decide) ?_
      refine ev_iret dBL_warm_23 rfl rfl ?_
      rw [warm_s, q2] at hk
      simp only [] at hk
      rw [if_pos (Or.inl c12)] at hk
      exact hk h n ad tg hX FrT.rf (Nat.le_refl _)
    · refine ev_iload_n dBL_warm_15 rfl rfl ?_
      refine ev_sipush (v := nI 4000) dBL_warm_16 (by decide) ?_
      refine ev_icmp_le (tgt := 24) dBL_warm_19 (by decide) (fun c19 => ?_) (fun c19 => ?_)
      · refine ev_aload_n dBL_warm_24 rfl rfl ?_
        refine ev_aload_n dBL_warm_25 rfl rfl ?_
        refine ev_get dBL_warm_26 fBL_220 u1 rfl ?_
        refine ev_iload_n dBL_warm_29 rfl rfl ?_
        obtain ⟨e', he1, he2, rfl⟩ := iI_in (by decide) (iI_nlt c12) c19
        have hw := o.2.2.2.2.2.2.1
        refine ev_mmax dBL_warm_30 lBL_223 ma_max_1 ma_i ma_max_2 (Nat.le_of_ble_eq_true rfl) ?_
        refine ev_top (nI_max (by omega) (by omega)) ?_
        refine ev_put dBL_warm_33 fBL_220 tTh_7 u1 rfl rfl (Nat.le_of_ble_eq_true rfl) ?_
        refine ev_iconst (v := nI 1) dBL_warm_36 (by decide) ?_
        refine ev_iret dBL_warm_37 rfl rfl ?_
        rw [warm_s, q2] at hk
        simp only [] at hk
        rw [if_neg (fun z => z.elim c12 (iI_le_nlt c19)), nI_clamp (by omega)] at hk
        have := XT_obj (t' := t_setW t (max (t_warm t) e')) hX hx2 rfl ⟨o.1, o.2.1, o.2.2.1, o.2.2.2.1, o.2.2.2.2.1, o.2.2.2.2.2.1, by show max (t_warm t) e' ≤ 4000; omega, o.2.2.2.2.2.2.2⟩
        exact hk _ n ad tg this.1 this.2 (Nat.le_refl _)
      · refine ev_iconst (v := nI 0) dBL_warm_22 (by decide) ?_
        refine ev_iret dBL_warm_23 rfl rfl ?_
        rw [warm_s, q2] at hk
        simp only [] at hk
        rw [if_pos (Or.inr (iI_nle c19))] at hk
        exact hk h n ad tg hX FrT.rf (Nat.le_refl _)
  · refine ev_astore_nN dBL_warm_5 rfl (by decide) ?_
    refine ev_aload_nN dBL_warm_6 rfl rfl ?_
    refine ev_ifnullN (tgt := 22) dBL_warm_7 (by decide) ?_
    refine ev_iconst (v := nI 0) dBL_warm_22 (by decide) ?_
    refine ev_iret dBL_warm_23 rfl rfl ?_
    rw [warm_s, q2] at hk
    exact hk h n ad tg hX FrT.rf (Nat.le_refl _)
set_option maxRecDepth 20000 in
set_option maxHeartbeats 1000000 in
theorem BL_waste_ok {x : Int32} {g : Int64} (hX : XT h n ad tg lr lq ts) (hok : ∀ t ∈ (waste_s ts x g).2, t_ok t) (hk : ∀ h' n' ad' tg', XT h' n' ad' tg' lr lq (waste_s ts x g).2 → FrT ad ad' h h' → n ≤ n' → P (some (.long (waste_s ts x g).1)) h' n') : ev_Run G l (d + 2) bc bs mBL_waste 0 [some (.ref (ad 0)), some (.int x), some (.long g), none, none] [] h n P := by
  obtain ⟨hA, h0, -, hl, hT, hlr, hbd⟩ := id hX
  refine ev_aload_n dBL_waste_0 rfl rfl ?_
  refine ev_iload_n dBL_waste_1 rfl rfl ?_
  refine cz_BL_find dBL_waste_2 lBL_96 h0 (Nat.le_of_ble_eq_true rfl) (BL_find_ok hX (fun i t q2 => ?_) (fun q2 => ?_))
  · obtain ⟨hx1, hx2, hx3⟩ := fnd_some q2
    obtain ⟨⟨u1, u2⟩, o⟩ := hT i t hx2
    rw [waste_s, q2] at hk hok
    simp only [] at hk hok
    have hi : i < ts.length := (List.getElem?_eq_some_iff.mp hx2).1
    have hne : ad (100 + 4 * i) ∉ [ad (101 + 4 * i), ad (102 + 4 * i), ad (103 + 4 * i)] := (by simp; exact ⟨ad_ne hA (ad_th (j := 0) hi (by omega)) (ad_th (j := 1) hi (by omega)) (by omega), ad_ne hA (ad_th (j := 0) hi (by omega)) (ad_th (j := 2) hi (by omega)) (by omega), ad_ne hA (ad_th (j := 0) hi (by omega)) (ad_th (j := 3) hi (by omega)) (by omega)⟩)
    refine ev_astore dBL_waste_5 (by decide) ?_
    refine ev_aload dBL_waste_7 rfl ?_
    refine ev_ifnull dBL_waste_9 ?_
    refine ev_aload dBL_waste_12 rfl ?_
    refine ev_get dBL_waste_14 fBL_82 u1 rfl ?_
    refine ev_lload_n dBL_waste_17 rfl rfl ?_
    refine cz_La_have dBL_waste_18 lBL_107 (u2.obj) (Nat.le_of_ble_eq_true rfl) (La_have_ok u2 (fun g1 g2 => ?_) (fun g1 => ?_))
    · have htl := sl_tot_lt o.2.2.2.2.2.2.2.2.1 u2.choose_spec.choose_spec.2.2.2.1
      obtain ⟨g', hg1, hg2, rfl⟩ := lL_in (by omega) g1 g2
      rw [if_pos ⟨g1, g2⟩, gN_lN (by omega)] at hk hok
      refine ev_if_ne (tgt := 28) dBL_waste_21 (by decide) (fun _ => ?_) (fun q9 => absurd q9 (by decide))
      refine ev_aload dBL_waste_28 rfl ?_
      refine ev_get dBL_waste_30 fBL_82 u1 rfl ?_
      refine ev_lload_n dBL_waste_33 rfl rfl ?_
      refine cz_La_dropFront dBL_waste_34 lBL_124 (u2.obj) (Nat.le_of_ble_eq_true rfl) (La_dropFront_ok u2 o.2.2.2.2.2.2.2.2.1 (by omega) (fun h2 q3 q4 => ?_))
      refine ev_aload dBL_waste_37 rfl ?_
      refine ev_dup dBL_waste_39 rfl ?_
      refine ev_get dBL_waste_40 fBL_128 ((q4 _ hne).trans u1) rfl ?_
      refine ev_lload_n dBL_waste_43 rfl rfl ?_
      refine ev_ladd dBL_waste_44 ?_
      refine ev_topl (lN_add _ _) ?_
      refine ev_put dBL_waste_45 fBL_128 tTh_5 ((q4 _ hne).trans u1) rfl rfl (Nat.le_of_ble_eq_true rfl) ?_
      refine ev_aload dBL_waste_48 rfl ?_
      refine ev_get dBL_waste_50 fBL_128 (hp_set_self _ _ _) rfl ?_
      refine ev_lret dBL_waste_53 rfl ?_
      have := XT_set4 (t' := t_setX (t_setL t (sl_rs (t_ls t) g')) (t_lost t + g')) hX hi ((q4.mono (by simp)).set (by simp)) ⟨hp_set_self _ _ _, q3.keep (hp_off.rf.set (S := [ad (100 + 4 * i)]) (by simp)) (ad_n1 hA hi (j := 1) (by omega) (by omega)) (ad_n1 hA hi (j := 2) (by omega) (by omega)) (ad_n1 hA hi (j := 3) (by omega) (by omega))⟩ (hok _ (List.mem_set hi _))
      exact hk _ n ad tg this.1 this.2 (Nat.le_refl _)
    · refine ev_if_ne (tgt := 28) dBL_waste_21 (by decide) (fun q9 => absurd (by decide) q9) (fun _ => ?_)
      refine ev_ldc2 (v := -1) dBL_waste_24 qBL_122 ?_
      refine ev_lret dBL_waste_27 rfl ?_
      rw [if_neg g1] at hk
      exact hk h n ad tg hX FrT.rf (Nat.le_refl _)
  · refine ev_astoreN dBL_waste_5 (by decide) ?_
    refine ev_aloadN dBL_waste_7 rfl ?_
    refine ev_ifnullN (tgt := 24) dBL_waste_9 (by decide) ?_
    refine ev_ldc2 (v := -1) dBL_waste_24 qBL_122 ?_
    refine ev_lret dBL_waste_27 rfl ?_
    rw [waste_s, q2] at hk
    exact hk h n ad tg hX FrT.rf (Nat.le_refl _)
end BL4
