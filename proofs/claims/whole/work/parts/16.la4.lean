section LA4
variable {G : xG} {l : Launch} {d bc bs : Nat} {h : xH} {n : Nat} {P : Option Value → xH → Nat → Prop} {la ia ga : Nat} {ls : sL}
set_option maxRecDepth 20000 in
set_option maxHeartbeats 1000000 in
theorem La_dropLayers_ok {e0 : Nat} (hL : La h la ia ga ls) (he : e0 ≤ ls.length) (hk : ∀ h', La h' la ia ga (ls.drop e0) → hp_off [la, ia, ga] h h' → P none h' n) : ev_Run G l d bc bs mLa_dropLayers 0 [some (.ref la), some (.int (nI e0)), none] [] h n P := by
  have hne := hL.ne
  obtain ⟨f, g, h1, h2, h3, hl, hfg⟩ := hL
  have loop : ∀ e k f' g' h', k + e = ls.length → e0 ≤ k → h' la = some (.inr (1, [.ref ia, .ref ga, .int (nI ls.length)])) → h' ia = some (.inl (0, 80, .inl f')) → h' ga = some (.inl (1, 80, .inr (.inl g'))) → (∀ i, i + e0 < k → f' i = f (i + e0) ∧ g' i = g (i + e0)) → (∀ i, k ≤ i → f' i = f i ∧ g' i = g i) → hp_off [la, ia, ga] h h' → ev_Run G l d bc bs mLa_dropLayers 2 [some (.ref la), some (.int (nI e0)), some (.int (nI k))] [] h' n P := by
    intro e
    induction e with
    | zero =>
      intro k f' g' h' hke hek i1 i2 i3 hlo hhi ho
      refine ev_iload_n dLa_dropLayers_2 rfl rfl ?_
      refine ev_aload_n dLa_dropLayers_3 rfl rfl ?_
      refine ev_get dLa_dropLayers_4 fLa_19 i1 rfl ?_
      refine ev_icmp_ge (tgt := 44) dLa_dropLayers_7 (by decide) (fun c7 => ?_) (fun c7 => absurd (nI_le (by omega) (by omega)) c7)
      refine ev_aload_n dLa_dropLayers_44 rfl rfl ?_
      refine ev_dup dLa_dropLayers_45 rfl ?_
      refine ev_get dLa_dropLayers_46 fLa_19 i1 rfl ?_
      refine ev_iload_n dLa_dropLayers_49 rfl rfl ?_
      refine ev_isub dLa_dropLayers_50 ?_
      refine ev_top (pk_sub he) ?_
      refine ev_put dLa_dropLayers_51 fLa_19 tLa_2 i1 rfl rfl (Nat.le_of_ble_eq_true rfl) ?_
      refine ev_vret dLa_dropLayers_54 rfl ?_
      skip
      refine hk _ ⟨f', g', (hp_set_self _ _ _).trans (by simp), (hp_set_ne _ _ (Ne.symm hne.1)).trans i2, (hp_set_ne _ _ (Ne.symm hne.2.1)).trans i3, by simp; omega, fun i p hp => ?_⟩ (ho.set (by simp))
      rw [List.getElem?_drop] at hp
      have hi := (List.getElem?_eq_some_iff.mp hp).1
      have := hlo i (by omega)
      rw [this.1, this.2, Nat.add_comm i e0]
      exact hfg _ p hp
    | succ e ih =>
      intro k f' g' h' hke hek i1 i2 i3 hlo hhi ho
      refine ev_iload_n dLa_dropLayers_2 rfl rfl ?_
      refine ev_aload_n dLa_dropLayers_3 rfl rfl ?_
      refine ev_get dLa_dropLayers_4 fLa_19 i1 rfl ?_
      refine ev_icmp_ge (tgt := 44) dLa_dropLayers_7 (by decide) (fun c7 => False.elim (absurd c7 (nI_ge (by omega) (by omega)))) (fun c7 => ?_)
      refine ev_aload_n dLa_dropLayers_10 rfl rfl ?_
      refine ev_get dLa_dropLayers_11 fLa_9 i1 rfl ?_
      refine ev_iload_n dLa_dropLayers_14 rfl rfl ?_
      refine ev_iload_n dLa_dropLayers_15 rfl rfl ?_
      refine ev_isub dLa_dropLayers_16 ?_
      refine ev_top (pk_sub hek) ?_
      refine ev_aload_n dLa_dropLayers_17 rfl rfl ?_
      refine ev_get dLa_dropLayers_18 fLa_9 i1 rfl ?_
      refine ev_iload_n dLa_dropLayers_21 rfl rfl ?_
      refine ev_iald dLa_dropLayers_22 i2 rfl rfl (by omega) (by decide) ?_
      refine ev_iast dLa_dropLayers_23 i2 rfl rfl (by omega) (by decide) ?_
      refine ev_aload_n dLa_dropLayers_24 rfl rfl ?_
      refine ev_get dLa_dropLayers_25 fLa_15 ((hp_set_ne _ _ hne.1).trans i1) rfl ?_
      refine ev_iload_n dLa_dropLayers_28 rfl rfl ?_
      refine ev_iload_n dLa_dropLayers_29 rfl rfl ?_
      refine ev_isub dLa_dropLayers_30 ?_
      refine ev_top (pk_sub hek) ?_
      refine ev_aload_n dLa_dropLayers_31 rfl rfl ?_
      refine ev_get dLa_dropLayers_32 fLa_15 ((hp_set_ne _ _ hne.1).trans i1) rfl ?_
      refine ev_iload_n dLa_dropLayers_35 rfl rfl ?_
      refine ev_lald dLa_dropLayers_36 ((hp_set_ne _ _ (Ne.symm hne.2.2)).trans i3) rfl rfl (by omega) (by decide) ?_
      refine ev_last dLa_dropLayers_37 ((hp_set_ne _ _ (Ne.symm hne.2.2)).trans i3) rfl rfl (by omega) (by decide) ?_
      refine ev_iinc dLa_dropLayers_38 rfl (ev_inc1 _) (by decide) ?_
      refine ev_goto (tgt := 2) dLa_dropLayers_41 (by decide) ?_
      skip
      refine ih (k + 1) (upd f' (k - e0) (f' k)) (vp_updL g' (k - e0) (g' k)) _ (by omega) (by omega) ((hp_set_ne _ _ hne.2.1).trans ((hp_set_ne _ _ hne.1).trans i1)) ((hp_set_ne _ _ hne.2.2).trans (hp_set_self _ _ _)) (hp_set_self _ _ _) (fun i hi => ?_) (fun i hi => ?_) ((ho.set (by simp)).set (by simp))
      · by_cases hik : i = k - e0
        · subst hik
          rw [pk_us, pk_uLs, show k - e0 + e0 = k by omega]
          exact hhi k (Nat.le_refl _)
        · rw [pk_un hik, pk_uLn hik]
          exact hlo i (by omega)
      · rw [pk_un (by omega), pk_uLn (by omega)]
        exact hhi i (by omega)
  refine ev_iload_n dLa_dropLayers_0 rfl rfl ?_
  refine ev_istore_n dLa_dropLayers_1 rfl (by decide) ?_
  exact loop (ls.length - e0) e0 f g h (by omega) (Nat.le_refl _) h1 h2 h3 (fun i hi => absurd hi (by omega)) (fun i _ => ⟨rfl, rfl⟩) hp_off.rf
theorem sl_rs_0 {s : sL} (hb : sl_gb s) : sl_rs s 0 = s := by
  cases s with
  | nil => rfl
  | cons p t =>
    have := hb p List.mem_cons_self
    simp only [sl_rs, if_neg (show ¬ p.2 ≤ 0 by omega)]
    rfl
set_option maxRecDepth 20000 in
set_option maxHeartbeats 1000000 in
theorem La_dropFront_ok {g0 : Nat} (hL : La h la ia ga ls) (hb : sl_gb ls) (hg : g0 < 2 ^ 62) (hk : ∀ h', La h' la ia ga (sl_rs ls g0) → hp_off [la, ia, ga] h h' → P none h' n) : ev_Run G l (d + 1) bc bs mLa_dropFront 0 [some (.ref la), some (.long (lN g0)), none, none, none, none, none, none, none] [] h n P := by
  have hne := hL.ne
  have hl0 : ls.length ≤ 80 := hL.choose_spec.choose_spec.2.2.2.1
  have fin : ∀ h' k us w3 w4 w6 w7 w8, La h' la ia ga us → k ≤ us.length → us.drop k = sl_rs ls g0 → hp_off [la, ia, ga] h h' → ev_Run G l (d + 1) bc bs mLa_dropFront 74 [some (.ref la), some (.long (lN g0)), none, w3, w4, some (.int (nI k)), w6, w7, w8] [] h' n P := by
    intro h' k us w3 w4 w6 w7 w8 hT hku hd ho
    obtain ⟨f, g, h1, -⟩ := id hT
    refine ev_aload_n dLa_dropFront_74 rfl rfl ?_
    refine ev_iload dLa_dropFront_75 rfl ?_
    refine cz_La_dropLayers dLa_dropFront_77 lLa_47 h1 (Nat.le_of_ble_eq_true rfl) (La_dropLayers_ok hT hku (fun h2 q1 q2 => ?_))
    refine ev_vret dLa_dropFront_80 rfl ?_
    rw [hd] at q1
    exact hk _ q1 (ho.tr q2)
  have loop : ∀ e k x zs h' w, zs.length = k → k + e = ls.length → x < 2 ^ 62 → La h' la ia ga (zs ++ ls.drop k) → hp_off [la, ia, ga] h h' → sl_rs (ls.drop k) x = sl_rs ls g0 → ev_Run G l (d + 1) bc bs mLa_dropFront 8 [some (.ref la), some (.long (lN g0)), none, some (.long (lN x)), none, some (.int (nI k)), some (.int (nI k)), w, none] [] h' n P := by
    intro e
    induction e with
    | zero =>
      intro k x zs h' w hz hke hx hT ho he
      obtain ⟨f, g, h1, h2, h3, hl, hfg⟩ := id hT
      have hd : ls.drop k = [] := List.drop_eq_nil_of_le (by omega)
      have hlen : (zs ++ ls.drop k).length = k := by rw [hd]; simp [hz]
      rw [hlen] at h1
      refine ev_iload dLa_dropFront_8 rfl ?_
      refine ev_aload_n dLa_dropFront_10 rfl rfl ?_
      refine ev_get dLa_dropFront_11 fLa_19 h1 rfl ?_
      refine ev_icmp_ge (tgt := 74) dLa_dropFront_14 (by decide) (fun c14 => ?_) (fun c14 => absurd (nI_le (by omega) (by omega)) c14)
      refine fin _ k _ _ _ _ _ _ hT (by omega) ?_ ho
      rw [List.drop_append_of_le_length (by omega), List.drop_eq_nil_of_le (by omega), List.nil_append, ← he, hd]
      rfl
    | succ e ih =>
      intro k x zs h' w hz hke hx hT ho he
      obtain ⟨p, hp⟩ := sl_get (ls := ls) (j := k) (by omega)
      have hp2 := hb p (List.mem_of_getElem? hp)
      obtain ⟨f, g, h1, h2, h3, hl, hfg⟩ := id hT
      have hlen : (zs ++ ls.drop k).length = ls.length := by simp [hz]; omega
      have hat : (zs ++ ls.drop k)[k]? = some p := by rw [List.getElem?_append_right (by omega), hz, Nat.sub_self, List.getElem?_drop, Nat.add_zero]; exact hp
      rw [hlen] at h1
      have hdk : (zs ++ ls.drop k).drop k = ls.drop k := by rw [List.drop_append_of_le_length (by omega), List.drop_eq_nil_of_le (by omega), List.nil_append]
      rcases Nat.eq_zero_or_pos x with rfl | hx0
      · refine ev_iload dLa_dropFront_8 rfl ?_
        refine ev_aload_n dLa_dropFront_10 rfl rfl ?_
        refine ev_get dLa_dropFront_11 fLa_19 h1 rfl ?_
        refine ev_icmp_ge (tgt := 74) dLa_dropFront_14 (by decide) (fun c14 => False.elim (absurd c14 (nI_ge (by omega) (by omega)))) (fun c14 => ?_)
        refine ev_lload_n dLa_dropFront_17 rfl rfl ?_
        refine ev_lconst (v := lN 0) dLa_dropFront_18 (by decide) ?_
        refine ev_lcmp_le (tgt := 74) dLa_dropFront_19 dLa_dropFront_20 (by decide) (fun c19 => ?_) (fun c19 => absurd (Int64.le_refl _) c19)
        refine fin _ k _ _ _ _ _ _ hT (by omega) ?_ ho
        rw [hdk, ← he, sl_rs_0 (fun q hq => hb q (List.mem_of_mem_drop hq))]
      · have hm : min x p.2 ≤ x := Nat.min_le_left _ _
        have hm2 : min x p.2 ≤ p.2 := Nat.min_le_right _ _
        have hT2 : La (hp_set h' ga (.inl (1, 80, .inr (.inl (vp_updL g k (lN (p.2 - min x p.2))))))) la ia ga ((zs ++ [(p.1, p.2 - min x p.2)]) ++ ls.drop (k + 1)) := by
          have hl2 : ((zs ++ [(p.1, p.2 - min x p.2)]) ++ ls.drop (k + 1)).length = ls.length := by simp [hz]; omega
          refine ⟨f, vp_updL g k (lN (p.2 - min x p.2)), (hp_set_ne _ _ hne.2.1).trans (by rw [hl2]; exact h1), (hp_set_ne _ _ hne.2.2).trans h2, hp_set_self _ _ _, by omega, fun i q hq => ?_⟩
          rcases Nat.lt_trichotomy i k with hik | hik | hik
          · rw [List.getElem?_append_left (by simp; omega), List.getElem?_append_left (by omega)] at hq
            rw [pk_uLn (by omega)]
            exact hfg i q (by rw [List.getElem?_append_left (by omega)]; exact hq)
          · subst hik
            rw [List.getElem?_append_left (by simp; omega), List.getElem?_append_right (by omega), hz, Nat.sub_self] at hq
            cases hq
            exact ⟨(hfg i p hat).1, pk_uLs⟩
          · rw [List.getElem?_append_right (by simp; omega)] at hq
            rw [pk_uLn (by omega)]
            refine hfg i q ?_
            rw [List.getElem?_append_right (by omega), hz, List.getElem?_drop]
            rw [List.getElem?_drop] at hq
            simp [hz] at hq
            rw [← hq]
            congr 1
            omega
        have ho2 : hp_off [la, ia, ga] h (hp_set h' ga (.inl (1, 80, .inr (.inl (vp_updL g k (lN (p.2 - min x p.2))))))) := ho.set (by simp)
        have hne1 : (hp_set h' ga (.inl (1, 80, .inr (.inl (vp_updL g k (lN (p.2 - min x p.2))))))) la = some (.inr (1, [.ref ia, .ref ga, .int (nI ls.length)])) := (hp_set_ne _ _ hne.2.1).trans h1
        obtain ⟨h5, hh5⟩ : ∃ h5, h5 = hp_set h' ga (.inl (1, 80, .inr (.inl (vp_updL g k (lN (p.2 - min x p.2)))))) := ⟨_, rfl⟩
        rw [← hh5] at hT2 ho2 hne1
        have exB : ¬ lN (p.2 - min x p.2) = lN 0 → ∀ w7, ev_Run G l (d + 1) bc bs mLa_dropFront 8 [some (.ref la), some (.long (lN g0)), none, some (.long (lN (x - min x p.2))), none, some (.int (nI k)), some (.int (nI (k + 1))), w7, none] [] h5 n P := by
          intro c61 w7
          have hlt : x < p.2 := by
            rcases Nat.lt_or_ge x p.2 with q | q
            · exact q
            · exact absurd (by rw [Nat.min_eq_right q, Nat.sub_self]) c61
          rw [Nat.min_eq_left (by omega)] at hT2
          rw [Nat.min_eq_left (by omega), Nat.sub_self]
          have hdone : ((zs ++ [(p.1, p.2 - x)]) ++ ls.drop (k + 1)).drop k = sl_rs ls g0 := by
            rw [← he, sl_drop hp, List.append_assoc, List.drop_append_of_le_length (by omega), List.drop_eq_nil_of_le (by omega), List.nil_append]
            simp only [sl_rs, if_neg (show ¬ p.2 ≤ x by omega)]
            rfl
          have hkl : k ≤ ((zs ++ [(p.1, p.2 - x)]) ++ ls.drop (k + 1)).length := by simp [hz]
          refine ev_iload dLa_dropFront_8 rfl ?_
          refine ev_aload_n dLa_dropFront_10 rfl rfl ?_
          refine ev_get dLa_dropFront_11 fLa_19 hne1 rfl ?_
          refine ev_icmp_ge (tgt := 74) dLa_dropFront_14 (by decide) (fun c14 => ?_) (fun c14 => ?_)
          · exact fin _ k _ _ _ _ _ _ hT2 hkl hdone ho2
          · refine ev_lload_n dLa_dropFront_17 rfl rfl ?_
            refine ev_lconst (v := lN 0) dLa_dropFront_18 (by decide) ?_
            refine ev_lcmp_le (tgt := 74) dLa_dropFront_19 dLa_dropFront_20 (by decide) (fun c19 => ?_) (fun c19 => absurd (Int64.le_refl _) c19)
            exact fin _ k _ _ _ _ _ _ hT2 hkl hdone ho2
        have exA : lN (p.2 - min x p.2) = lN 0 → ∀ w7, ev_Run G l (d + 1) bc bs mLa_dropFront 8 [some (.ref la), some (.long (lN g0)), none, some (.long (lN (x - min x p.2))), none, some (.int (nI (k + 1))), some (.int (nI (k + 1))), w7, none] [] h5 n P := by
          intro c61 w7
          have hge : p.2 ≤ x := by
            rw [pk_lEQ (by omega) (by omega)] at c61
            omega
          refine ih (k + 1) (x - min x p.2) (zs ++ [(p.1, p.2 - min x p.2)]) h5 w7 (by simp [hz]) (by omega) (by omega) hT2 ho2 ?_
          rw [← he, sl_drop hp, Nat.min_eq_right hge]
          simp only [sl_rs, if_pos hge]
        rw [hh5] at exA exB
        refine ev_iload dLa_dropFront_8 rfl ?_
        refine ev_aload_n dLa_dropFront_10 rfl rfl ?_
        refine ev_get dLa_dropFront_11 fLa_19 h1 rfl ?_
        refine ev_icmp_ge (tgt := 74) dLa_dropFront_14 (by decide) (fun c14 => False.elim (absurd c14 (nI_ge (by omega) (by omega)))) (fun c14 => ?_)
        refine ev_lload_n dLa_dropFront_17 rfl rfl ?_
        refine ev_lconst (v := lN 0) dLa_dropFront_18 (by decide) ?_
        refine ev_lcmp_le (tgt := 74) dLa_dropFront_19 dLa_dropFront_20 (by decide) (fun c19 => False.elim (absurd c19 (lN_pos hx0 (by omega)))) (fun c19 => ?_)
        refine ev_lload_n dLa_dropFront_23 rfl rfl ?_
        refine ev_aload_n dLa_dropFront_24 rfl rfl ?_
        refine ev_get dLa_dropFront_25 fLa_15 h1 rfl ?_
        refine ev_iload dLa_dropFront_28 rfl ?_
        refine ev_lald dLa_dropFront_30 h3 rfl rfl (by omega) (by decide) ?_
        refine ev_mminl dLa_dropFront_31 lLa_37 ma_minl_1 ma_i ma_minl_2 (Nat.le_of_ble_eq_true rfl) ?_
        refine ev_topl (y := lN (min x p.2)) (by rw [(hfg k p hat).2]; exact lN_min (by omega) (by omega)) ?_
        refine ev_lstore dLa_dropFront_34 (by decide) ?_
        refine ev_aload_n dLa_dropFront_36 rfl rfl ?_
        refine ev_get dLa_dropFront_37 fLa_15 h1 rfl ?_
        refine ev_iload dLa_dropFront_40 rfl ?_
        refine ev_dup2_11 dLa_dropFront_42 rfl rfl ?_
        refine ev_lald dLa_dropFront_43 h3 rfl rfl (by omega) (by decide) ?_
        refine ev_lload dLa_dropFront_44 rfl ?_
        refine ev_lsub dLa_dropFront_46 ?_
        refine ev_topl (y := lN (p.2 - min x p.2)) (by rw [(hfg k p hat).2]; exact lN_sub hm2) ?_
        refine ev_last dLa_dropFront_47 h3 rfl rfl (by omega) (by decide) ?_
        refine ev_lload_n dLa_dropFront_48 rfl rfl ?_
        refine ev_lload dLa_dropFront_49 rfl ?_
        refine ev_lsub dLa_dropFront_51 ?_
        refine ev_topl (y := lN (x - min x p.2)) (lN_sub hm) ?_
        refine ev_lstore_n dLa_dropFront_52 rfl (by decide) ?_
        refine ev_aload_n dLa_dropFront_53 rfl rfl ?_
        refine ev_get dLa_dropFront_54 fLa_15 ((hp_set_ne _ _ hne.2.1).trans h1) rfl ?_
        refine ev_iload dLa_dropFront_57 rfl ?_
        refine ev_lald dLa_dropFront_59 (hp_set_self _ _ _) rfl rfl (by omega) (by decide) ?_
        refine ev_topl (pk_uLs) ?_
        refine ev_lconst (v := lN 0) dLa_dropFront_60 (by decide) ?_
        refine ev_lcmp_ne (tgt := 68) dLa_dropFront_61 dLa_dropFront_62 (by decide) (fun c61 => ?_) (fun c61 => ?_)
        · refine ev_iinc dLa_dropFront_68 rfl (ev_inc1 _) (by decide) ?_
          refine ev_goto (tgt := 8) dLa_dropFront_71 (by decide) ?_
          exact exB c61 _
        · refine ev_iinc dLa_dropFront_65 rfl (ev_inc1 _) (by decide) ?_
          refine ev_iinc dLa_dropFront_68 rfl (ev_inc1 _) (by decide) ?_
          refine ev_goto (tgt := 8) dLa_dropFront_71 (by decide) ?_
          exact exA c61 _
  refine ev_lload_n dLa_dropFront_0 rfl rfl ?_
  refine ev_lstore_n dLa_dropFront_1 rfl (by decide) ?_
  refine ev_iconst (v := nI 0) dLa_dropFront_2 (by decide) ?_
  refine ev_istore dLa_dropFront_3 (by decide) ?_
  refine ev_iconst (v := nI 0) dLa_dropFront_5 (by decide) ?_
  refine ev_istore dLa_dropFront_6 (by decide) ?_
  exact loop ls.length 0 g0 [] h none rfl (by omega) hg (by simpa using hL) hp_off.rf rfl
end LA4
