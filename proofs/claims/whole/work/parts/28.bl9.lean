def hc_n (ls : sL) (k : Nat) : Nat := ls.countP (fun p => decide (p.1 = k))
theorem hc_take {ls : sL} {i k : Nat} {p : Nat × Nat} (h : ls[i]? = some p) : hc_n (ls.take (i + 1)) k = hc_n (ls.take i) k + (if p.1 = k then 1 else 0) := by
  unfold hc_n
  rw [List.take_add_one, h, List.countP_append]
  by_cases hp : p.1 = k <;> simp [hp]
theorem hc_pos {ls : sL} (hb : sl_gb ls) (k : Nat) : 0 < hc_n ls k ↔ 0 < sl_of ls k := by
  induction ls with
  | nil => simp [hc_n, sl_of]
  | cons p t ih =>
    have h1 := ih (fun q hq => hb q (List.mem_cons_of_mem _ hq))
    have h2 := (hb p List.mem_cons_self).1
    simp only [hc_n, sl_of, List.countP_cons, List.map_cons, List.sum_cons] at h1 ⊢
    by_cases hp : p.1 = k
    · simp only [hp, decide_true, if_true]; omega
    · simp only [hp, decide_false, if_false]; simpa using h1
theorem filter_eq {p q : Nat → Bool} {N : Nat} (h : ∀ k, k < N → p k = q k) : (List.range N).filter p = (List.range N).filter q := by
  apply List.filter_congr
  intro x hx
  exact h x (List.mem_range.mp hx)
section BL9
variable {G : xG} {l : Launch} {d bc bs : Nat} {h h' : xH} {n n0 : Nat} {P : Option Value → xH → Nat → Prop} {ad tg : Nat → Nat} {lr lq : Nat} {ts ts' : List sT} {S : List Nat}
theorem ad_2 (hA : ad_ok ad tg ts.length) {j k : Nat} (hj : j < 26) (hk : k < 26) (h : j ≠ k) : ad j ∉ [ad k] := by
  simp; exact ad_ne hA (Or.inl hj) (Or.inl hk) h
set_option maxRecDepth 20000 in
set_option maxHeartbeats 1000000 in
theorem BL_back_ok {x k : Int32} (hX : XT h n0 ad tg lr lq ts) (hS : XS h ad) (hk : ∀ h', XS h' ad → hp_off [ad 3] h h' → P (some (.int (back_s ts x k))) h' n) : ev_Run G l (d + 1) bc bs mBL_back 0 [some (.ref (ad 0)), some (.int x), some (.int k), none, none] [] h n P := by
  obtain ⟨hA, h0, -, hl, hT, hlr, hbd⟩ := id hX
  have na : ad 0 ∉ [ad 3] := ad_2 hA (by omega) (by omega) (by omega)
  have loop : ∀ i t, fnd ts x = some (i, t) → ∀ e j h', j + e = (t_ls t).length → Ta h' (ad 2) (ad 3) (hc_n ((t_ls t).take j)) → hp_off [ad 3] h h' → ev_Run G l (d + 1) bc bs mBL_back 22 [some (.ref (ad 0)), some (.int x), some (.int k), some (.ref (ad (100 + 4 * i))), some (.int (nI j))] [] h' n P := by
    intro i t q2 e
    obtain ⟨hx1, hx2, hx3⟩ := fnd_some q2
    rw [back_s, q2] at hk
    simp only [] at hk
    induction e with
    | zero =>
      intro j h' hj hTa ho
      have hX' := hX.off ho (ad_s (by omega) (by omega))
      obtain ⟨⟨u1, u2⟩, o⟩ := hX'.2.2.2.2.1 i t hx2
      have hl8 := u2.len
      have h0' := hX'.2.1
      rw [List.take_of_length_le (by omega)] at hTa
      have hfe : (List.range 100).filter (fun c => decide (0 < hc_n (t_ls t) c)) = (List.range 100).filter (fun c => decide (0 < sl_of (t_ls t) c)) := filter_eq (fun c _ => by simp only [hc_pos o.2.2.2.2.2.2.2.2.1 c])
      rw [← hfe] at hk
      refine ev_iload dBL_back_22 rfl ?_
      refine ev_aload_n dBL_back_24 rfl rfl ?_
      refine ev_get dBL_back_25 fBL_82 u1 rfl ?_
      refine cz_La_size dBL_back_28 lBL_160 u2.obj (Nat.le_of_ble_eq_true rfl) (La_size_ok u2 ?_)
      refine ev_icmp_ge (tgt := 56) dBL_back_31 (by decide) (fun c31 => ?_) (fun c31 => absurd (nI_le (by omega) (by omega)) c31)
      refine ev_aload_n dBL_back_56 rfl rfl ?_
      refine ev_get dBL_back_57 fBL_22 h0' rfl ?_
      refine ev_iload_n dBL_back_60 rfl rfl ?_
      refine cz_Ta_pick dBL_back_61 lBL_167 hTa.obj (Nat.le_of_ble_eq_true rfl) (Ta_pick_ok hTa (fun c _ => by have : hc_n (t_ls t) c ≤ (t_ls t).length := List.countP_le_length; omega) ?_)
      refine ev_iret dBL_back_64 rfl rfl ?_
      exact hk _ (hS.off3 hX ho hTa) ho
    | succ e ih =>
      intro j h' hj hTa ho
      have hX' := hX.off ho (ad_s (by omega) (by omega))
      obtain ⟨⟨u1, u2⟩, o⟩ := hX'.2.2.2.2.1 i t hx2
      have hl8 := u2.len
      have h0' := hX'.2.1
      obtain ⟨p, hp⟩ := sl_get (ls := t_ls t) (j := j) (by omega)
      refine ev_iload dBL_back_22 rfl ?_
      refine ev_aload_n dBL_back_24 rfl rfl ?_
      refine ev_get dBL_back_25 fBL_82 u1 rfl ?_
      refine cz_La_size dBL_back_28 lBL_160 u2.obj (Nat.le_of_ble_eq_true rfl) (La_size_ok u2 ?_)
      refine ev_icmp_ge (tgt := 56) dBL_back_31 (by decide) (fun c31 => False.elim (absurd c31 (nI_ge (by omega) (by omega)))) (fun c31 => ?_)
      refine ev_aload_n dBL_back_34 rfl rfl ?_
      refine ev_get dBL_back_35 fBL_22 h0' rfl ?_
      refine ev_aload_n dBL_back_38 rfl rfl ?_
      refine ev_get dBL_back_39 fBL_82 u1 rfl ?_
      refine ev_iload dBL_back_42 rfl ?_
      refine cz_La_haulAt dBL_back_44 lBL_145 u2.obj (Nat.le_of_ble_eq_true rfl) (La_haulAt_in u2 hp rfl ?_)
      refine cz_Ta_count dBL_back_47 lBL_164 hTa.obj (Nat.le_of_ble_eq_true rfl) (Ta_count_ok hTa (o.2.2.2.2.2.2.2.1 p (List.mem_of_getElem? hp)) (fun h2 k1 k2 => ?_))
      refine ev_iinc dBL_back_50 rfl (ev_inc1 _) (by decide) ?_
      refine ev_goto (tgt := 22) dBL_back_53 (by decide) ?_
      exact ih (j + 1) h2 (by omega) (k1.eq (fun c _ => by rw [hc_take hp]; by_cases hc : c = p.1 <;> simp [hc, eq_comm])) (ho.tr k2)
  refine ev_aload_n dBL_back_0 rfl rfl ?_
  refine ev_iload_n dBL_back_1 rfl rfl ?_
  refine cz_BL_find dBL_back_2 lBL_96 h0 (Nat.le_of_ble_eq_true rfl) (BL_find_ok hX (fun i t q2 => ?_) (fun q2 => ?_))
  · refine ev_astore_n dBL_back_5 rfl (by decide) ?_
    refine ev_aload_n dBL_back_6 rfl rfl ?_
    refine ev_ifnonnull (tgt := 12) dBL_back_7 (by decide) ?_
    refine ev_aload_n dBL_back_12 rfl rfl ?_
    refine ev_get dBL_back_13 fBL_22 h0 rfl ?_
    refine cz_Ta_clear dBL_back_16 lBL_159 hS.1.1 (Nat.le_of_ble_eq_true rfl) (Ta_clear_ok hS.1.1 hS.1.2.choose_spec (fun h2 k1 k2 => ?_))
    refine ev_iconst (v := nI 0) dBL_back_19 (by decide) ?_
    refine ev_istore dBL_back_20 (by decide) ?_
    exact loop i t q2 (t_ls t).length 0 h2 (by omega) (k1.eq (fun c _ => by simp [hc_n])) k2
  · refine ev_astore_nN dBL_back_5 rfl (by decide) ?_
    refine ev_aload_nN dBL_back_6 rfl rfl ?_
    refine ev_ifnonnullN dBL_back_7 ?_
    refine ev_iconst (v := -1) dBL_back_10 (by decide) ?_
    refine ev_iret dBL_back_11 rfl rfl ?_
    rw [back_s, q2] at hk
    exact hk h hS hp_off.rf
theorem dbl_lt {ts : List sT} {k : Nat} (h : dbl ts k = true) : k < ts.length := by
  unfold dbl at h
  cases hq : ts[k]? with
  | none => rw [hq] at h; cases h
  | some t => exact (List.getElem?_eq_some_iff.mp hq).1
theorem dbl_step {i : Nat} (hd : dbl ts i = true) (c : Nat) : (if c = i then (if c < i ∧ dbl ts c = true then 1 else 0) + 1 else if c < i ∧ dbl ts c = true then 1 else 0) = if c < i + 1 ∧ dbl ts c = true then 1 else 0 := by
  by_cases hc : c = i
  · subst hc
    simp [hd]
  · rw [if_neg hc]
    have : (c < i ∧ dbl ts c = true) = (c < i + 1 ∧ dbl ts c = true) := by
      apply propext; constructor <;> (rintro ⟨a, b⟩; exact ⟨by omega, b⟩)
    simp only [this]
set_option maxRecDepth 20000 in
set_option maxHeartbeats 1000000 in
theorem BL_doubled_ok {k : Int32} (hX : XT h n0 ad tg lr lq ts) (hS : XS h ad) (hk : ∀ h', XS h' ad → hp_off [ad 3, ad 5] h h' → P (some (.int (doubled_s ts k))) h' n) : ev_Run G l (d + 2) bc bs mBL_doubled 0 [some (.ref (ad 0)), some (.int k), none] [] h n P := by
  obtain ⟨hA, h0, -, hl, hT, hlr, hbd⟩ := id hX
  have hs35 : ∀ q ∈ [ad 3, ad 5], ∃ k, 2 ≤ k ∧ k < 26 ∧ q = ad k := by
    intro q hq; simp at hq; rcases hq with rfl | rfl; exact ⟨3, by omega, by omega, rfl⟩; exact ⟨5, by omega, by omega, rfl⟩
  have loop : ∀ e i h', i + e = ts.length → Ta h' (ad 2) (ad 3) (fun c => if c < i ∧ dbl ts c = true then 1 else 0) → XS h' ad → hp_off [ad 3, ad 5] h h' → ev_Run G l (d + 2) bc bs mBL_doubled 9 [some (.ref (ad 0)), some (.int k), some (.int (nI i))] [] h' n P := by
    intro e
    induction e with
    | zero =>
      intro i h' hi hTa hS' ho
      have hX' := hX.off ho hs35
      have h0' := hX'.2.1
      have hfe : (List.range 100).filter (fun c => decide (0 < if c < i ∧ dbl ts c = true then 1 else 0)) = (List.range 100).filter (dbl ts) := filter_eq (fun c _ => by
        by_cases hd : dbl ts c = true
        · have := dbl_lt hd
          simp [hd, show c < i by omega]
        · simp [hd])
      rw [doubled_s, ← hfe] at hk
      refine ev_iload_n dBL_doubled_9 rfl rfl ?_
      refine ev_aload_n dBL_doubled_10 rfl rfl ?_
      refine ev_get dBL_doubled_11 fBL_15 h0' rfl ?_
      refine ev_icmp_ge (tgt := 55) dBL_doubled_14 (by decide) (fun c14 => ?_) (fun c14 => absurd (nI_le (by omega) (by omega)) c14)
      refine ev_aload_n dBL_doubled_55 rfl rfl ?_
      refine ev_get dBL_doubled_56 fBL_22 h0' rfl ?_
      refine ev_iload_n dBL_doubled_59 rfl rfl ?_
      refine cz_Ta_pick dBL_doubled_60 lBL_167 hTa.obj (Nat.le_of_ble_eq_true rfl) (Ta_pick_ok hTa (fun c _ => by split <;> omega) ?_)
      refine ev_iret dBL_doubled_63 rfl rfl ?_
      exact hk _ hS' ho
    | succ e ih =>
      intro i h' hi hTa hS' ho
      have hX' := hX.off ho hs35
      have h0' := hX'.2.1
      obtain ⟨t, ht⟩ : ∃ t, ts[i]? = some t := ⟨_, List.getElem?_eq_getElem (by omega)⟩
      have hf := fnd_in ht (by omega)
      have n25 : ad 2 ∉ [ad 5] := ad_2 hA (by omega) (by omega) (by omega)
      have n35 : ad 3 ∉ [ad 5] := ad_2 hA (by omega) (by omega) (by omega)
      have n05 : ad 0 ∉ [ad 5] := ad_2 hA (by omega) (by omega) (by omega)
      have n03 : ad 0 ∉ [ad 3] := ad_2 hA (by omega) (by omega) (by omega)
      have o5 : ∀ {a b : xH}, hp_off [ad 5] a b → hp_off [ad 3, ad 5] a b := fun q => q.mono (by simp)
      have o3 : ∀ {a b : xH}, hp_off [ad 3] a b → hp_off [ad 3, ad 5] a b := fun q => q.mono (by simp)
      have skip1 : dbl ts i = false → ∀ h2, Ta h2 (ad 2) (ad 3) (fun c => if c < i ∧ dbl ts c = true then 1 else 0) → XS h2 ad → hp_off [ad 3, ad 5] h h2 → ev_Run G l (d + 2) bc bs mBL_doubled 9 [some (.ref (ad 0)), some (.int k), some (.int (nI (i + 1)))] [] h2 n P := fun hd h2 a1 a2 a3 => ih (i + 1) h2 (by omega) (a1.eq (fun c _ => by
        by_cases hci : c = i
        · subst hci; simp [hd]
        · have : (c < i ∧ dbl ts c = true) = (c < i + 1 ∧ dbl ts c = true) := by
            apply propext; constructor <;> (rintro ⟨a, b⟩; exact ⟨by omega, b⟩)
          simp only [this])) a2 a3
      refine ev_iload_n dBL_doubled_9 rfl rfl ?_
      refine ev_aload_n dBL_doubled_10 rfl rfl ?_
      refine ev_get dBL_doubled_11 fBL_15 h0' rfl ?_
      refine ev_icmp_ge (tgt := 55) dBL_doubled_14 (by decide) (fun c14 => False.elim (absurd c14 (nI_ge (by omega) (by omega)))) (fun c14 => ?_)
      refine ev_aload_n dBL_doubled_17 rfl rfl ?_
      refine ev_iload_n dBL_doubled_18 rfl rfl ?_
      refine cz_BL_findHaul dBL_doubled_19 lBL_131 h0' (Nat.le_of_ble_eq_true rfl) (BL_findHaul_ok hX' (fun i2 t2 q2 qk => ?_) (fun q2 => ?_))
      · rw [hf] at q2
        cases q2
        refine ev_ifnull dBL_doubled_22 ?_
        refine ev_aload_n dBL_doubled_25 rfl rfl ?_
        refine ev_iload_n dBL_doubled_26 rfl rfl ?_
        refine cz_BL_countBoxesWith dBL_doubled_27 lBL_170 h0' (Nat.le_of_ble_eq_true rfl) (BL_countBoxes_ok (j := i) hX' hS' (by omega) (fun h2 k1 k2 => ?_))
        refine ev_aload_n dBL_doubled_30 rfl rfl ?_
        refine ev_get dBL_doubled_31 fBL_26 ((k2 _ n05).trans h0') rfl ?_
        refine ev_iconst (v := nI 2) dBL_doubled_34 (by decide) ?_
        refine cz_Ta_countedAtLeast dBL_doubled_35 lBL_173 k1.obj (Nat.le_of_ble_eq_true rfl) (Ta_atLeast_ok k1 (by decide) (fun c _ => by have := bx_le ts c i; omega) ?_)
        refine ev_if_le (tgt := 49) dBL_doubled_38 (by decide) (fun c38 => ?_) (fun c38 => ?_)
        · refine ev_iinc dBL_doubled_49 rfl (ev_inc1 _) (by decide) ?_
          refine ev_goto (tgt := 9) dBL_doubled_52 (by decide) ?_
          exact skip1 (by unfold dbl; rw [ht]; have : ¬ 0 < ((List.range 100).filter (fun c => decide (2 ≤ bx_n ts c i))).length := (fun z => nI_nle z (by have := rf_len (fun c => decide (2 ≤ bx_n ts c i)) 100; omega) c38); simp only [qk, true_and]; simpa using this) _ (hTa.keep k2 n25 n35) (hS'.off5 hX' k2 k1) (ho.tr (o5 k2))
        · refine ev_aload_n dBL_doubled_41 rfl rfl ?_
          refine ev_get dBL_doubled_42 fBL_22 ((k2 _ n05).trans h0') rfl ?_
          refine ev_iload_n dBL_doubled_45 rfl rfl ?_
          refine cz_Ta_count dBL_doubled_46 lBL_164 (hTa.keep k2 n25 n35).obj (Nat.le_of_ble_eq_true rfl) (Ta_count_ok (hTa.keep k2 n25 n35) (by omega) (fun h3 k3 k4 => ?_))
          refine ev_iinc dBL_doubled_49 rfl (ev_inc1 _) (by decide) ?_
          refine ev_goto (tgt := 9) dBL_doubled_52 (by decide) ?_
          have hd : dbl ts i = true := (by unfold dbl; rw [ht]; have hp : 0 < ((List.range 100).filter (fun c => decide (2 ≤ bx_n ts c i))).length := (by rcases Nat.eq_zero_or_pos ((List.range 100).filter (fun c => decide (2 ≤ bx_n ts c i))).length with q | q; exact absurd (by rw [q]; decide) c38; exact q); simp only [qk, true_and]; simpa using hp)
          exact ih (i + 1) h3 (by omega) (k3.eq (fun c _ => dbl_step hd c)) ((hS'.off5 hX' k2 k1).off3 (hX'.off k2 (ad_s (by omega) (by omega))) k4 k3) ((ho.tr (o5 k2)).tr (o3 k4))
      · refine ev_ifnullN (tgt := 49) dBL_doubled_22 (by decide) ?_
        refine ev_iinc dBL_doubled_49 rfl (ev_inc1 _) (by decide) ?_
        refine ev_goto (tgt := 9) dBL_doubled_52 (by decide) ?_
        exact skip1 (by unfold dbl; rw [ht]; have := q2 i t hf; simp [this]) _ hTa hS' ho
  refine ev_aload_n dBL_doubled_0 rfl rfl ?_
  refine ev_get dBL_doubled_1 fBL_22 h0 rfl ?_
  refine cz_Ta_clear dBL_doubled_4 lBL_159 hS.1.1 (Nat.le_of_ble_eq_true rfl) (Ta_clear_ok hS.1.1 hS.1.2.choose_spec (fun h2 k1 k2 => ?_))
  refine ev_iconst (v := nI 0) dBL_doubled_7 (by decide) ?_
  refine ev_istore_n dBL_doubled_8 rfl (by decide) ?_
  exact loop ts.length 0 h2 (by omega) (k1.eq (fun c _ => by simp)) (hS.off3 hX k2 k1) (k2.mono (by simp))
theorem sum_take {f : sT → Nat} {i : Nat} {t : sT} (h : ts[i]? = some t) : ((ts.take (i + 1)).map f).sum = ((ts.take i).map f).sum + f t := by
  simp [List.take_add_one, h]
set_option maxRecDepth 20000 in
theorem BL_sumOfFact_ok {w : Int32} {f : sT → Nat} (hX : XT h n0 ad tg lr lq ts) (hf : ∀ t, fact_s t w = lN (f t)) (hk : P (some (.long (lN ((ts.map f).sum)))) h n) : ev_Run G l (d + 2) bc bs mBL_sumOfFact 0 [some (.ref (ad 0)), some (.int w), none, none, none, none] [] h n P := by
  obtain ⟨hA, h0, -, hl, hT, hlr, hbd⟩ := id hX
  have loop : ∀ e i v, i + e = ts.length → ev_Run G l (d + 2) bc bs mBL_sumOfFact 5 [some (.ref (ad 0)), some (.int w), some (.long (lN ((ts.take i).map f).sum)), none, some (.int (nI i)), v] [] h n P := by
    intro e
    induction e with
    | zero =>
      intro i v hi
      refine ev_iload dBL_sumOfFact_5 rfl ?_
      refine ev_aload_n dBL_sumOfFact_7 rfl rfl ?_
      refine ev_get dBL_sumOfFact_8 fBL_15 h0 rfl ?_
      refine ev_icmp_ge (tgt := 42) dBL_sumOfFact_11 (by decide) (fun c11 => ?_) (fun c11 => absurd (nI_le (by omega) (by omega)) c11)
      refine ev_lload_n dBL_sumOfFact_42 rfl rfl ?_
      refine ev_lret dBL_sumOfFact_43 rfl ?_
      rw [List.take_of_length_le (by omega)]
      exact hk
    | succ e ih =>
      intro i v hi
      obtain ⟨t, ht⟩ : ∃ t, ts[i]? = some t := ⟨_, List.getElem?_eq_getElem (by omega)⟩
      have hfd := fnd_in ht (by omega)
      obtain ⟨u, o⟩ := hT i t ht
      refine ev_iload dBL_sumOfFact_5 rfl ?_
      refine ev_aload_n dBL_sumOfFact_7 rfl rfl ?_
      refine ev_get dBL_sumOfFact_8 fBL_15 h0 rfl ?_
      refine ev_icmp_ge (tgt := 42) dBL_sumOfFact_11 (by decide) (fun c11 => False.elim (absurd c11 (nI_ge (by omega) (by omega)))) (fun c11 => ?_)
      refine ev_aload_n dBL_sumOfFact_14 rfl rfl ?_
      refine ev_iload dBL_sumOfFact_15 rfl ?_
      refine cz_BL_find dBL_sumOfFact_17 lBL_96 h0 (Nat.le_of_ble_eq_true rfl) (BL_find_ok hX (fun i2 t2 q2 => ?_) (fun q2 => ?_))
      · rw [hfd] at q2
        cases q2
        refine ev_astore dBL_sumOfFact_20 (by decide) ?_
        refine ev_aload dBL_sumOfFact_22 rfl ?_
        refine ev_ifnull dBL_sumOfFact_24 ?_
        refine ev_lload_n dBL_sumOfFact_27 rfl rfl ?_
        refine ev_aload dBL_sumOfFact_28 rfl ?_
        refine ev_iload_n dBL_sumOfFact_30 rfl rfl ?_
        refine cz_Th_fact dBL_sumOfFact_31 lBL_141 u.1 (Nat.le_of_ble_eq_true rfl) (Th_fact_ok u o ?_)
        refine ev_ladd dBL_sumOfFact_34 ?_
        refine ev_topl (y := lN (((ts.take (i + 1)).map f).sum)) (by rw [hf, lN_add, sum_take ht]) ?_
        refine ev_lstore_n dBL_sumOfFact_35 rfl (by decide) ?_
        refine ev_iinc dBL_sumOfFact_36 rfl (ev_inc1 _) (by decide) ?_
        refine ev_goto (tgt := 5) dBL_sumOfFact_39 (by decide) ?_
        exact ih (i + 1) _ (by omega)
      · rw [hfd] at q2; cases q2
        
  refine ev_lconst (v := lN 0) dBL_sumOfFact_0 (by decide) ?_
  refine ev_lstore_n dBL_sumOfFact_1 rfl (by decide) ?_
  refine ev_iconst (v := nI 0) dBL_sumOfFact_2 (by decide) ?_
  refine ev_istore dBL_sumOfFact_3 (by decide) ?_
  exact loop ts.length 0 none (by omega)
set_option maxRecDepth 20000 in
theorem BL_sumInside_ok {w : Nat} (hX : XT h n0 ad tg lr lq ts) (hw : w < 2 ^ 31) (hk : P (some (.long (lN ((ts.map (fun t => if t_kind t = w then sl_tot (t_ls t) else 0)).sum)))) h n) : ev_Run G l (d + 1) bc bs mBL_sumInside 0 [some (.ref (ad 0)), some (.int (nI w)), none, none, none, none] [] h n P := by
  obtain ⟨hA, h0, -, hl, hT, hlr, hbd⟩ := id hX
  have loop : ∀ e i v, i + e = ts.length → ev_Run G l (d + 1) bc bs mBL_sumInside 5 [some (.ref (ad 0)), some (.int (nI w)), some (.long (lN ((ts.take i).map (fun t => if t_kind t = w then sl_tot (t_ls t) else 0)).sum)), none, some (.int (nI i)), v] [] h n P := by
    intro e
    induction e with
    | zero =>
      intro i v hi
      refine ev_iload dBL_sumInside_5 rfl ?_
      refine ev_aload_n dBL_sumInside_7 rfl rfl ?_
      refine ev_get dBL_sumInside_8 fBL_15 h0 rfl ?_
      refine ev_icmp_ge (tgt := 53) dBL_sumInside_11 (by decide) (fun c11 => ?_) (fun c11 => absurd (nI_le (by omega) (by omega)) c11)
      refine ev_lload_n dBL_sumInside_53 rfl rfl ?_
      refine ev_lret dBL_sumInside_54 rfl ?_
      rw [List.take_of_length_le (by omega)]
      exact hk
    | succ e ih =>
      intro i v hi
      obtain ⟨t, ht⟩ : ∃ t, ts[i]? = some t := ⟨_, List.getElem?_eq_getElem (by omega)⟩
      have hfd := fnd_in ht (by omega)
      obtain ⟨⟨u1, u2⟩, o⟩ := hT i t ht
      have hi1 := fun v => ih (i + 1) v (by omega)
      rw [sum_take (f := fun t => if t_kind t = w then sl_tot (t_ls t) else 0) ht] at hi1
      refine ev_iload dBL_sumInside_5 rfl ?_
      refine ev_aload_n dBL_sumInside_7 rfl rfl ?_
      refine ev_get dBL_sumInside_8 fBL_15 h0 rfl ?_
      refine ev_icmp_ge (tgt := 53) dBL_sumInside_11 (by decide) (fun c11 => False.elim (absurd c11 (nI_ge (by omega) (by omega)))) (fun c11 => ?_)
      refine ev_aload_n dBL_sumInside_14 rfl rfl ?_
      refine ev_iload dBL_sumInside_15 rfl ?_
      refine cz_BL_find dBL_sumInside_17 lBL_96 h0 (Nat.le_of_ble_eq_true rfl) (BL_find_ok hX (fun i2 t2 q2 => ?_) (fun q2 => ?_))
      · rw [hfd] at q2
        cases q2
        refine ev_astore dBL_sumInside_20 (by decide) ?_
        refine ev_aload dBL_sumInside_22 rfl ?_
        refine ev_ifnull dBL_sumInside_24 ?_
        refine ev_aload dBL_sumInside_27 rfl ?_
        refine ev_get dBL_sumInside_29 fBL_100 u1 rfl ?_
        refine ev_iload_n dBL_sumInside_32 rfl rfl ?_
        refine ev_icmp_ne (tgt := 47) dBL_sumInside_33 (by decide) (fun c33 => ?_) (fun c33 => ?_)
        · rw [if_neg (fun z => c33 (by rw [z])), Nat.add_zero] at hi1
          refine ev_iinc dBL_sumInside_47 rfl (ev_inc1 _) (by decide) ?_
          refine ev_goto (tgt := 5) dBL_sumInside_50 (by decide) ?_
          exact hi1 _
        · rw [if_pos ((nI_eq (by have := o.1; omega) hw).mp c33)] at hi1
          refine ev_lload_n dBL_sumInside_36 rfl rfl ?_
          refine ev_aload dBL_sumInside_37 rfl ?_
          refine ev_get dBL_sumInside_39 fBL_82 u1 rfl ?_
          refine cz_La_total dBL_sumInside_42 lBL_134 u2.obj (Nat.le_of_ble_eq_true rfl) (La_total_ok u2 ?_)
          refine ev_ladd dBL_sumInside_45 ?_
          refine ev_topl (lN_add _ _) ?_
          refine ev_lstore_n dBL_sumInside_46 rfl (by decide) ?_
          refine ev_iinc dBL_sumInside_47 rfl (ev_inc1 _) (by decide) ?_
          refine ev_goto (tgt := 5) dBL_sumInside_50 (by decide) ?_
          exact hi1 _
      · rw [hfd] at q2; cases q2
        
  refine ev_lconst (v := lN 0) dBL_sumInside_0 (by decide) ?_
  refine ev_lstore_n dBL_sumInside_1 rfl (by decide) ?_
  refine ev_iconst (v := nI 0) dBL_sumInside_2 (by decide) ?_
  refine ev_istore dBL_sumInside_3 (by decide) ?_
  exact loop ts.length 0 none (by omega)
end BL9
