section LA3
variable {G : xG} {l : Launch} {d bc bs : Nat} {h : xH} {n : Nat} {P : Option Value → xH → Nat → Prop} {la ia ga : Nat} {ls : sL}
set_option maxRecDepth 20000 in
theorem La_clear_ok (hL : La h la ia ga ls) (hk : ∀ h', La h' la ia ga [] → hp_off [la, ia, ga] h h' → P none h' n) : ev_Run G l d bc bs mLa_clear 0 [some (.ref la)] [] h n P := by
  have hne := hL.ne
  obtain ⟨f, g, h1, h2, h3, hl, hfg⟩ := hL
  refine ev_aload_n dLa_clear_0 rfl rfl ?_
  refine ev_iconst (v := nI 0) dLa_clear_1 (by decide) ?_
  refine ev_put dLa_clear_2 fLa_19 tLa_2 h1 rfl rfl (Nat.le_of_ble_eq_true rfl) ?_
  refine ev_vret dLa_clear_5 rfl ?_
  skip
  refine hk _ ⟨f, g, hp_set_self _ _ _, (hp_set_ne _ _ (Ne.symm hne.1)).trans h2, (hp_set_ne _ _ (Ne.symm hne.2.1)).trans h3, by simp, fun k p hp => by simp at hp⟩ (hp_off.rf.set (by simp))
set_option maxRecDepth 20000 in
set_option maxHeartbeats 1000000 in
theorem La_append_ok {a x : Nat} (hL : La h la ia ga ls) (hb : sl_hb ls) (ha : a < 100) (hlen : (sl_jn ls a x).length ≤ 80) (hk : ∀ h', La h' la ia ga (sl_jn ls a x) → hp_off [la, ia, ga] h h' → P none h' n) : ev_Run G l d bc bs mLa_append 0 [some (.ref la), some (.int (nI a)), some (.long (lN x)), none] [] h n P := by
  have hne := hL.ne
  obtain ⟨f, g, h1, h2, h3, hl, hfg⟩ := hL
  have push : ls.length < 80 → sl_jn ls a x = ls ++ [(a, x)] → ev_Run G l d bc bs mLa_append 40 [some (.ref la), some (.int (nI a)), some (.long (lN x)), none] [] h n P := by
    intro hlt he
    refine ev_aload_n dLa_append_40 rfl rfl ?_
    refine ev_get dLa_append_41 fLa_19 h1 rfl ?_
    refine ev_aload_n dLa_append_44 rfl rfl ?_
    refine ev_get dLa_append_45 fLa_9 h1 rfl ?_
    refine ev_alen dLa_append_48 h2 rfl ?_
    refine ev_icmp_ge (tgt := 82) dLa_append_49 (by decide) (fun c49 => False.elim (absurd c49 (nI_ge (by omega) (by omega)))) (fun c49 => ?_)
    refine ev_aload_n dLa_append_52 rfl rfl ?_
    refine ev_get dLa_append_53 fLa_9 h1 rfl ?_
    refine ev_aload_n dLa_append_56 rfl rfl ?_
    refine ev_get dLa_append_57 fLa_19 h1 rfl ?_
    refine ev_iload_n dLa_append_60 rfl rfl ?_
    refine ev_iast dLa_append_61 h2 rfl rfl (by omega) (by decide) ?_
    refine ev_aload_n dLa_append_62 rfl rfl ?_
    refine ev_get dLa_append_63 fLa_15 ((hp_set_ne _ _ hne.1).trans h1) rfl ?_
    refine ev_aload_n dLa_append_66 rfl rfl ?_
    refine ev_get dLa_append_67 fLa_19 ((hp_set_ne _ _ hne.1).trans h1) rfl ?_
    refine ev_lload_n dLa_append_70 rfl rfl ?_
    refine ev_last dLa_append_71 ((hp_set_ne _ _ (Ne.symm hne.2.2)).trans h3) rfl rfl (by omega) (by decide) ?_
    refine ev_aload_n dLa_append_72 rfl rfl ?_
    refine ev_dup dLa_append_73 rfl ?_
    refine ev_get dLa_append_74 fLa_19 ((hp_set_ne _ _ hne.2.1).trans ((hp_set_ne _ _ hne.1).trans h1)) rfl ?_
    refine ev_iconst (v := nI 1) dLa_append_77 (by decide) ?_
    refine ev_iadd dLa_append_78 ?_
    refine ev_top (nI_add _ _) ?_
    refine ev_put dLa_append_79 fLa_19 tLa_2 ((hp_set_ne _ _ hne.2.1).trans ((hp_set_ne _ _ hne.1).trans h1)) rfl rfl (Nat.le_of_ble_eq_true rfl) ?_
    refine ev_vret dLa_append_82 rfl ?_
    skip
    refine hk _ ?_ (((hp_off.rf.set (by simp)).set (by simp)).set (by simp))
    rw [he]
    refine ⟨upd f ls.length (nI a), vp_updL g ls.length (lN x), (hp_set_self _ _ _).trans (by simp), (hp_set_ne _ _ (Ne.symm hne.1)).trans ((hp_set_ne _ _ hne.2.2).trans (hp_set_self _ _ _)), (hp_set_ne _ _ (Ne.symm hne.2.1)).trans (hp_set_self _ _ _), by simp; omega, fun k p hp => ?_⟩
    rcases Nat.lt_or_ge k ls.length with hkl | hkl
    · rw [List.getElem?_append_left hkl] at hp
      rw [pk_un (by omega), pk_uLn (by omega)]
      exact hfg k p hp
    · have hk1 : k < (ls ++ [(a, x)]).length := (List.getElem?_eq_some_iff.mp hp).1
      have hk2 : k = ls.length := by simp at hk1; omega
      subst hk2
      simp at hp
      subst hp
      exact ⟨pk_us, pk_uLs⟩
  rcases sl_last ls with rfl | ⟨T0, q, rfl⟩
  · refine ev_aload_n dLa_append_0 rfl rfl ?_
    refine ev_get dLa_append_1 fLa_19 h1 rfl ?_
    refine ev_if_le (tgt := 40) dLa_append_4 (by decide) (fun c4 => ?_) (fun c4 => absurd ((show nI 0 ≤ 0 by decide)) c4)
    exact push (by simp) (sl_jn_nil a x)
  · have hq : (T0 ++ [q])[T0.length]? = some q := by simp
    have hq1 := hb q (List.mem_of_getElem? hq)
    have hlen2 : (T0 ++ [q]).length = T0.length + 1 := by simp
    rw [hlen2] at hl
    have h1' := h1
    rw [hlen2] at h1'
    have join : q.1 = a → P none (hp_set h ga (.inl (1, 80, .inr (.inl (vp_updL g T0.length (lN (q.2 + x))))))) n := by
      intro e1
      refine hk _ ?_ (hp_off.rf.set (by simp))
      rw [sl_jn_same e1]
      refine ⟨f, vp_updL g T0.length (lN (q.2 + x)), (hp_set_ne _ _ hne.2.1).trans (by simpa using h1), (hp_set_ne _ _ hne.2.2).trans h2, hp_set_self _ _ _, by simp; omega, fun k p hp => ?_⟩
      rcases Nat.lt_or_ge k T0.length with hkl | hkl
      · rw [List.getElem?_append_left hkl] at hp
        rw [pk_uLn (by omega)]
        exact hfg k p (by rw [List.getElem?_append_left hkl]; exact hp)
      · have hk1 : k < (T0 ++ [(a, q.2 + x)]).length := (List.getElem?_eq_some_iff.mp hp).1
        have hk2 : k = T0.length := by simp at hk1; omega
        subst hk2
        simp at hp
        subst hp
        exact ⟨(hfg _ q hq).1.trans (by rw [e1]), pk_uLs⟩
    refine ev_aload_n dLa_append_0 rfl rfl ?_
    refine ev_get dLa_append_1 fLa_19 h1' rfl ?_
    refine ev_if_le (tgt := 40) dLa_append_4 (by decide) (fun c4 => False.elim (absurd c4 (nI_nle (by omega) (by omega)))) (fun c4 => ?_)
    refine ev_aload_n dLa_append_7 rfl rfl ?_
    refine ev_get dLa_append_8 fLa_9 h1' rfl ?_
    refine ev_aload_n dLa_append_11 rfl rfl ?_
    refine ev_get dLa_append_12 fLa_19 h1' rfl ?_
    refine ev_iconst (v := nI 1) dLa_append_15 (by decide) ?_
    refine ev_isub dLa_append_16 ?_
    refine ev_top (nI_pred _) ?_
    refine ev_iald dLa_append_17 h2 rfl rfl (by omega) (by decide) ?_
    refine ev_iload_n dLa_append_18 rfl rfl ?_
    refine ev_icmp_ne (tgt := 40) dLa_append_19 (by decide) (fun c19 => ?_) (fun c19 => ?_)
    · rw [(hfg _ q hq).1] at c19
      have e1 : ¬ q.1 = a := fun z => c19 (by rw [z])
      rw [sl_jn_diff e1] at hlen
      exact push (by simp at hlen; simp; omega) (sl_jn_diff e1)
    · refine ev_aload_n dLa_append_22 rfl rfl ?_
      refine ev_get dLa_append_23 fLa_15 h1' rfl ?_
      refine ev_aload_n dLa_append_26 rfl rfl ?_
      refine ev_get dLa_append_27 fLa_19 h1' rfl ?_
      refine ev_iconst (v := nI 1) dLa_append_30 (by decide) ?_
      refine ev_isub dLa_append_31 ?_
      refine ev_top (nI_pred _) ?_
      refine ev_dup2_11 dLa_append_32 rfl rfl ?_
      refine ev_lald dLa_append_33 h3 rfl rfl (by omega) (by decide) ?_
      refine ev_lload_n dLa_append_34 rfl rfl ?_
      refine ev_ladd dLa_append_35 ?_
      refine ev_topl (y := lN (q.2 + x)) (by rw [(hfg _ q hq).2, lN_add]) ?_
      refine ev_last dLa_append_36 h3 rfl rfl (by omega) (by decide) ?_
      refine ev_goto (tgt := 82) dLa_append_37 (by decide) ?_
      refine ev_vret dLa_append_82 rfl ?_
      rw [(hfg _ q hq).1] at c19
      exact join ((nI_eq (by omega) (by omega)).mp c19)
/-- hauls of what is taken -/
theorem sl_tk_hb {s : sL} {g : Nat} (h : sl_hb s) : sl_hb (sl_tk s g) := by
  induction s generalizing g with
  | nil => simpa [sl_tk] using h
  | cons p t ih =>
    unfold sl_tk
    split
    · intro q hq; cases hq
    · split
      · intro q hq
        rcases List.mem_cons.mp hq with rfl | hq
        · exact h _ List.mem_cons_self
        · exact ih (fun r hr => h r (List.mem_cons_of_mem _ hr)) q hq
      · intro q hq
        simp at hq
        subst hq
        exact h p List.mem_cons_self
theorem lN_min {x y : Nat} (hx : x < 2 ^ 62) (hy : y < 2 ^ 62) : (if lN y < lN x then lN y else lN x) = lN (min x y) := by
  rcases Nat.lt_or_ge y x with h | h
  · rw [if_pos ((pk_lLT (by omega) (by omega)).mpr h), Nat.min_eq_right (by omega)]
  · rw [if_neg (fun z => absurd ((pk_lLT (by omega) (by omega)).mp z) (by omega)), Nat.min_eq_left h]
set_option maxRecDepth 20000 in
set_option maxHeartbeats 1000000 in
theorem La_appendFront_ok {lb ib gb g0 : Nat} {s : sL} (hL : La h la ia ga ls) (hL2 : La h lb ib gb s) (hx1 : lb ≠ la) (hx2 : ib ≠ ia) (hx3 : gb ≠ ga) (hb0 : sl_hb ls) (hb1 : sl_hb s) (hb : sl_gb s) (hg : g0 < 2 ^ 62) (hlen : (sl_jl ls (sl_tk s g0)).length ≤ 80)
    (hk : ∀ h', La h' la ia ga (sl_jl ls (sl_tk s g0)) → hp_off [la, ia, ga] h h' → P none h' n) : ev_Run G l (d + 1) bc bs mLa_appendFront 0 [some (.ref la), some (.ref lb), some (.long (lN g0)), none, none, none, none, none, none] [] h n P := by
  have hn1 := hL.ne
  have hn2 := hL2.ne
  have hd1 : lb ∉ [la, ia, ga] ∧ ib ∉ [la, ia, ga] ∧ gb ∉ [la, ia, ga] := by
    obtain ⟨f, g, h1, h2, h3, -⟩ := hL
    obtain ⟨f2, g2, i1, i2, i3, -⟩ := hL2
    refine ⟨fun z => ?_, fun z => ?_, fun z => ?_⟩ <;> simp at z <;> rcases z with z | z | z <;> first | exact hx1 z | exact hx2 z | exact hx3 z | (subst z; simp_all)
  have loop : ∀ e j x T h' w, j + e = s.length → x < 2 ^ 62 → La h' la ia ga T → sl_hb T → hp_off [la, ia, ga] h h' → sl_jl T (sl_tk (s.drop j) x) = sl_jl ls (sl_tk s g0) → ev_Run G l (d + 1) bc bs mLa_appendFront 6 [some (.ref la), some (.ref lb), some (.long (lN g0)), none, some (.long (lN x)), none, some (.int (nI j)), w, none] [] h' n P := by
    intro e
    induction e with
    | zero =>
      intro j x T h' w hj hx hT hTb ho he
      obtain ⟨f2, g2, i1, i2, i3, il, ifg⟩ := hL2.keep ho hd1.1 hd1.2.1 hd1.2.2
      rw [List.drop_eq_nil_of_le (by omega)] at he
      have he : T = sl_jl ls (sl_tk s g0) := by simpa [sl_tk, sl_jl] using he
      subst he
      refine ev_iload dLa_appendFront_6 rfl ?_
      refine ev_aload_n dLa_appendFront_8 rfl rfl ?_
      refine ev_get dLa_appendFront_9 fLa_19 i1 rfl ?_
      refine ev_icmp_ge (tgt := 62) dLa_appendFront_12 (by decide) (fun c12 => ?_) (fun c12 => absurd (nI_le (by omega) (by omega)) c12)
      refine ev_vret dLa_appendFront_62 rfl ?_
      exact hk _ hT ho
    | succ e ih =>
      intro j x T h' w hj hx hT hTb ho he
      obtain ⟨p, hp⟩ := sl_get (ls := s) (j := j) (by omega)
      have hp2 := hb p (List.mem_of_getElem? hp)
      have hp1 := hb1 p (List.mem_of_getElem? hp)
      have hL3 := hL2.keep ho hd1.1 hd1.2.1 hd1.2.2
      obtain ⟨f2, g2, i1, i2, i3, il, ifg⟩ := id hL3
      obtain ⟨f3, g3, k1, -⟩ := id hT
      rw [sl_drop hp] at he
      rcases Nat.eq_zero_or_pos x with rfl | hx0
      · have he : T = sl_jl ls (sl_tk s g0) := by simpa [sl_tk, sl_jl] using he
        subst he
        refine ev_iload dLa_appendFront_6 rfl ?_
        refine ev_aload_n dLa_appendFront_8 rfl rfl ?_
        refine ev_get dLa_appendFront_9 fLa_19 i1 rfl ?_
        refine ev_icmp_ge (tgt := 62) dLa_appendFront_12 (by decide) (fun c12 => False.elim (absurd c12 (nI_ge (by omega) (by omega)))) (fun c12 => ?_)
        refine ev_lload dLa_appendFront_15 rfl ?_
        refine ev_lconst (v := lN 0) dLa_appendFront_17 (by decide) ?_
        refine ev_lcmp_le (tgt := 62) dLa_appendFront_18 dLa_appendFront_19 (by decide) (fun c18 => ?_) (fun c18 => absurd (Int64.le_refl _) c18)
        refine ev_vret dLa_appendFront_62 rfl ?_
        exact hk _ hT ho
      · have he2 : sl_jl (sl_jn T p.1 (min x p.2)) (sl_tk (s.drop (j + 1)) (x - min x p.2)) = sl_jl ls (sl_tk s g0) := by
          rw [← he]
          rcases Nat.lt_or_ge p.2 x with hxp | hxp
          · rw [Nat.min_eq_right (by omega)]
            simp only [sl_tk, if_neg (show ¬ x = 0 by omega), if_pos hxp, sl_jl, List.foldl_cons]
          · rw [Nat.min_eq_left hxp, Nat.sub_self, sl_tk_0]
            simp only [sl_tk, if_neg (show ¬ x = 0 by omega), if_neg (show ¬ p.2 < x by omega), sl_jl, List.foldl_cons]
        have hl2 : (sl_jn T p.1 (min x p.2)).length ≤ 80 := by
          refine Nat.le_trans (sl_jl_len (sl_tk (s.drop (j + 1)) (x - min x p.2)) _) ?_
          rw [he2]
          exact hlen
        have hm : min x p.2 ≤ x := Nat.min_le_left _ _
        refine ev_iload dLa_appendFront_6 rfl ?_
        refine ev_aload_n dLa_appendFront_8 rfl rfl ?_
        refine ev_get dLa_appendFront_9 fLa_19 i1 rfl ?_
        refine ev_icmp_ge (tgt := 62) dLa_appendFront_12 (by decide) (fun c12 => False.elim (absurd c12 (nI_ge (by omega) (by omega)))) (fun c12 => ?_)
        refine ev_lload dLa_appendFront_15 rfl ?_
        refine ev_lconst (v := lN 0) dLa_appendFront_17 (by decide) ?_
        refine ev_lcmp_le (tgt := 62) dLa_appendFront_18 dLa_appendFront_19 (by decide) (fun c18 => False.elim (absurd c18 (lN_pos hx0 (by omega)))) (fun c18 => ?_)
        refine ev_lload dLa_appendFront_22 rfl ?_
        refine ev_aload_n dLa_appendFront_24 rfl rfl ?_
        refine ev_get dLa_appendFront_25 fLa_15 i1 rfl ?_
        refine ev_iload dLa_appendFront_28 rfl ?_
        refine ev_lald dLa_appendFront_30 i3 rfl rfl (by omega) (by decide) ?_
        refine ev_mminl dLa_appendFront_31 lLa_37 ma_minl_1 ma_i ma_minl_2 (Nat.le_of_ble_eq_true rfl) ?_
        refine ev_topl (y := lN (min x p.2)) (by rw [(ifg j p hp).2]; exact lN_min (by omega) (by omega)) ?_
        refine ev_lstore dLa_appendFront_34 (by decide) ?_
        refine ev_aload_n dLa_appendFront_36 rfl rfl ?_
        refine ev_aload_n dLa_appendFront_37 rfl rfl ?_
        refine ev_get dLa_appendFront_38 fLa_9 i1 rfl ?_
        refine ev_iload dLa_appendFront_41 rfl ?_
        refine ev_iald dLa_appendFront_43 i2 rfl rfl (by omega) (by decide) ?_
        refine ev_top ((ifg j p hp).1) ?_
        refine ev_lload dLa_appendFront_44 rfl ?_
        refine cz_La_append dLa_appendFront_46 lLa_43 k1 (Nat.le_of_ble_eq_true rfl) (La_append_ok (a := p.1) (x := min x p.2) hT hTb hp1 hl2 (fun h2 q1 q2 => ?_))
        refine ev_lload dLa_appendFront_49 rfl ?_
        refine ev_lload dLa_appendFront_51 rfl ?_
        refine ev_lsub dLa_appendFront_53 ?_
        refine ev_topl (y := lN (x - min x p.2)) (lN_sub hm) ?_
        refine ev_lstore dLa_appendFront_54 (by decide) ?_
        refine ev_iinc dLa_appendFront_56 rfl (ev_inc1 _) (by decide) ?_
        refine ev_goto (tgt := 6) dLa_appendFront_59 (by decide) ?_
        exact ih (j + 1) (x - min x p.2) _ _ _ (by omega) (by omega) q1 (sl_hb_jn hTb hp1) (ho.tr q2) he2
  refine ev_lload_n dLa_appendFront_0 rfl rfl ?_
  refine ev_lstore dLa_appendFront_1 (by decide) ?_
  refine ev_iconst (v := nI 0) dLa_appendFront_3 (by decide) ?_
  refine ev_istore dLa_appendFront_4 (by decide) ?_
  exact loop s.length 0 g0 ls h none (by omega) hg hL hb0 hp_off.rf rfl
end LA3
