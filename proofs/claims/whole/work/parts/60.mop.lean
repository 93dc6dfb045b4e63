/-! the reference: putting down, taking out -/
section MOP
variable {G : xG} {l : Launch} {d bc bs : Nat} {h h0 : xH} {n : Nat} {P : Option Value → xH → Nat → Prop} {ad tg : Nat → Nat} {T : Nat} {iv iv' iv2 : Nat → Int32} {ia ia' ia2 : Nat → Nat → Int32} {la la' la2 : Nat → Nat → Int64} {ts : List sT}
theorem ag_2 {i : Nat} {v : Int32} : mo_ag i ia (upv ia 2 (upd (ia 2) i v)) la la := fun k hk => ⟨rfl, pk_un (f := ia 2) (by omega), fun c _ => ⟨rfl, rfl⟩, rfl, rfl, rfl, rfl, rfl, rfl⟩
theorem ag_5 {i : Nat} {v : Int64} : mo_ag i ia ia la (upv la 5 (vp_updL (la 5) i v)) := fun k hk => ⟨rfl, rfl, fun c _ => ⟨rfl, rfl⟩, pk_uLn (f := la 5) (by omega), rfl, rfl, rfl, rfl, rfl⟩
theorem ag_10 {i : Nat} {v : Int64} : mo_ag i ia ia la (upv la 10 (vp_updL (la 10) i v)) := fun k hk => ⟨rfl, rfl, fun c _ => ⟨rfl, rfl⟩, rfl, rfl, rfl, rfl, rfl, pk_uLn (f := la 10) (by omega)⟩
theorem ag_34 {i k : Nat} {v : Int32} {w : Int64} (hk : k < 81) : mo_ag i ia (upv ia 3 (upd (ia 3) (81 * i + k) v)) la (upv la 4 (vp_updL (la 4) (81 * i + k) w)) := by
  intro q hq
  refine ⟨rfl, rfl, fun c hc => ⟨?_, ?_⟩, rfl, rfl, rfl, rfl, rfl, rfl⟩
  · show upd (ia 3) (81 * i + k) v (81 * q + c) = ia 3 (81 * q + c)
    exact pk_un (by omega)
  · show vp_updL (la 4) (81 * i + k) w (81 * q + c) = la 4 (81 * q + c)
    exact pk_uLn (by omega)
theorem mo_ag.rf {i : Nat} : mo_ag i ia ia la la := fun k hk => ⟨rfl, rfl, fun c _ => ⟨rfl, rfl⟩, rfl, rfl, rfl, rfl, rfl, rfl⟩
/-- only layers have changed -/
def mo_lr (ia ia' : Nat → Nat → Int32) (la la' : Nat → Nat → Int64) : Prop := (∀ j, j ≠ 2 → j ≠ 3 → ia' j = ia j) ∧ (∀ j, j ≠ 4 → la' j = la j)
theorem mo_lr.rest (a : mo_lr ia ia' la la') : mo_rest iv iv ia ia' la la' := ⟨fun j hj => ⟨a.1 j (by omega) (by omega), a.2 j (by omega)⟩, fun _ _ => rfl⟩
abbrev mo_cn (i : Nat) (ls : sL) (ia : Nat → Nat → Int32) (la : Nat → Nat → Int64) : Prop := ∀ k p, ls[k]? = some p → ia 3 (81 * i + k) = nI p.1 ∧ la 4 (81 * i + k) = lN p.2
theorem mo_tL {i : Nat} {t : sT} {ls : sL} (ht : mo_t i t ia la) (e2 : ia' 2 i = nI ls.length) (e3 : mo_cn i ls ia' la') (a : mo_lr ia ia' la la') : mo_t i (t_setL t ls) ia' la' := by
  obtain ⟨b1, b2, b3, b4, b5, b6, b7, b8, b9⟩ := ht
  exact ⟨by rw [a.1 1 (by omega) (by omega)]; exact b1, e2, e3, by rw [a.2 5 (by omega)]; exact b4, by rw [a.1 6 (by omega) (by omega)]; exact b5, by rw [a.1 7 (by omega) (by omega)]; exact b6, by rw [a.1 8 (by omega) (by omega)]; exact b7, by rw [a.1 9 (by omega) (by omega)]; exact b8, by rw [a.2 10 (by omega)]; exact b9⟩
set_option maxRecDepth 20000 in
set_option maxHeartbeats 1000000 in
theorem Mo_putDown_ok {i : Nat} {zs : sL} (hi : i < 70) (hl : zs.length ≤ 80) (hM : MoK h0 h ad tg T iv ia la) (hZ : MoZ iv ia la zs) (hk : ∀ h' ia' la', MoK h0 h' ad tg T iv ia' la' → ia' 2 i = nI zs.length → mo_cn i zs ia' la' → mo_ag i ia ia' la la' → mo_lr ia ia' la la' → P none h' n) : ev_Run G l d bc bs mMo_putDown 0 [some (.ref (ad 1000)), some (.int (nI i)), none] [] h n P := by
  obtain ⟨z1, z2⟩ := hZ
  have loop : ∀ e k h' ia' la', k + e = zs.length → MoK h0 h' ad tg T iv ia' la' → ia' 2 i = nI zs.length → (∀ k' p, k' < k → zs[k']? = some p → ia' 3 (81 * i + k') = nI p.1 ∧ la' 4 (81 * i + k') = lN p.2) → mo_ag i ia ia' la la' → mo_lr ia ia' la la' → ev_Run G l d bc bs mMo_putDown 12 [some (.ref (ad 1000)), some (.int (nI i)), some (.int (nI k))] [] h' n P := by
    intro e
    induction e with
    | zero =>
      intro k h' ia' la' hke hM' e2 e3 ha hr
      refine ev_iload_n dMo_putDown_12 rfl rfl ?_
      refine ev_aload_n dMo_putDown_13 rfl rfl ?_
      refine ev_get dMo_putDown_14 fMo_105 hM'.2.1.1 rfl ?_
      refine ev_icmp_ge (tgt := 60) dMo_putDown_17 (by decide) (fun c17 => ?_) (fun c17 => absurd ((show iv 1 ≤ nI k by rw [z1]; exact nI_le (by omega) (by omega))) c17)
      refine ev_vret dMo_putDown_60 rfl ?_
      exact hk _ _ _ hM' e2 (fun k' p hp => e3 k' p (by have := (List.getElem?_eq_some_iff.mp hp).1; omega) hp) ha hr
    | succ e ih =>
      intro k h' ia' la' hke hM' e2 e3 ha hr
      obtain ⟨p, hp⟩ := sl_get (ls := zs) (j := k) (by omega)
      refine ev_iload_n dMo_putDown_12 rfl rfl ?_
      refine ev_aload_n dMo_putDown_13 rfl rfl ?_
      refine ev_get dMo_putDown_14 fMo_105 hM'.2.1.1 rfl ?_
      refine ev_icmp_ge (tgt := 60) dMo_putDown_17 (by decide) (fun c17 => False.elim (absurd (show nI zs.length ≤ nI k by rw [← z1]; exact c17) (nI_ge (by omega) (by omega)))) (fun c17 => ?_)
      refine ev_aload_n dMo_putDown_20 rfl rfl ?_
      refine ev_get dMo_putDown_21 fMo_16 hM'.2.1.1 rfl ?_
      refine ev_bipush (v := nI 81) dMo_putDown_24 (by decide) ?_
      refine ev_iload_n dMo_putDown_26 rfl rfl ?_
      refine ev_imul dMo_putDown_27 ?_
      refine ev_iload_n dMo_putDown_28 rfl rfl ?_
      refine ev_iadd dMo_putDown_29 ?_
      refine ev_aload_n dMo_putDown_30 rfl rfl ?_
      refine ev_get dMo_putDown_31 fMo_42 hM'.2.1.1 rfl ?_
      refine ev_iload_n dMo_putDown_34 rfl rfl ?_
      refine ev_iald dMo_putDown_35 hM'.2.1.g11 rfl rfl (by omega) (by decide) ?_
      refine ev_top (((congrFun (hr.1 11 (by omega) (by omega)) k).trans (z2 k p hp).1)) ?_
      refine ev_iast dMo_putDown_36 hM'.2.1.g3 rfl (mo_ix _ _) (by omega) (by decide) ?_
      refine mo_ist (j := 3) (t := 0) (N := 5670) hM' (by decide) (fun h36 m36 => ?_)
      refine ev_aload_n dMo_putDown_37 rfl rfl ?_
      refine ev_get dMo_putDown_38 fMo_19 m36.2.1.1 rfl ?_
      refine ev_bipush (v := nI 81) dMo_putDown_41 (by decide) ?_
      refine ev_iload_n dMo_putDown_43 rfl rfl ?_
      refine ev_imul dMo_putDown_44 ?_
      refine ev_iload_n dMo_putDown_45 rfl rfl ?_
      refine ev_iadd dMo_putDown_46 ?_
      refine ev_aload_n dMo_putDown_47 rfl rfl ?_
      refine ev_get dMo_putDown_48 fMo_45 m36.2.1.1 rfl ?_
      refine ev_iload_n dMo_putDown_51 rfl rfl ?_
      refine ev_lald dMo_putDown_52 m36.2.1.g12 rfl rfl (by omega) (by decide) ?_
      refine ev_topl (((congrFun (hr.2 12 (by omega)) k).trans (z2 k p hp).2)) ?_
      refine ev_last dMo_putDown_53 m36.2.1.g4 rfl (mo_ix _ _) (by omega) (by decide) ?_
      refine mo_lst (j := 4) (N := 5670) m36 (by decide) (fun h53 m53 => ?_)
      refine ev_iinc dMo_putDown_54 rfl (ev_inc1 _) (by decide) ?_
      refine ev_goto (tgt := 12) dMo_putDown_57 (by decide) ?_
      refine ih (k + 1) _ _ _ (by omega) m53 e2 (fun k' q hk' hq => ?_) (ha.tr (ag_34 (by omega))) ⟨fun j j1 j2 => (upv_n j2).trans (hr.1 j j1 j2), fun j j1 => (upv_n j1).trans (hr.2 j j1)⟩
      show upd (ia' 3) (81 * i + k) (nI p.1) (81 * i + k') = _ ∧ vp_updL (la' 4) (81 * i + k) (lN p.2) (81 * i + k') = _
      rcases Nat.lt_or_ge k' k with r | r
      · rw [pk_un (by omega), pk_uLn (by omega)]; exact e3 k' q r hq
      · have : k' = k := (by omega); subst this; rw [hp] at hq; cases hq; exact ⟨pk_us, pk_uLs⟩
  refine ev_aload_n dMo_putDown_0 rfl rfl ?_
  refine ev_get dMo_putDown_1 fMo_13 hM.2.1.1 rfl ?_
  refine ev_iload_n dMo_putDown_4 rfl rfl ?_
  refine ev_aload_n dMo_putDown_5 rfl rfl ?_
  refine ev_get dMo_putDown_6 fMo_105 hM.2.1.1 rfl ?_
  refine ev_iast dMo_putDown_9 hM.2.1.g2 rfl rfl (by omega) (by decide) ?_
  refine mo_ist (j := 2) (t := 0) (N := 70) hM (by decide) (fun h9 m9 => ?_)
  refine ev_iconst (v := nI 0) dMo_putDown_10 (by decide) ?_
  refine ev_istore_n dMo_putDown_11 rfl (by decide) ?_
  exact loop zs.length 0 _ _ _ (by omega) m9 (Eq.trans (pk_us (f := ia 2)) z1) (fun k' p hk' => absurd hk' (by omega)) ag_2 ⟨fun j j1 j2 => upv_n j1, fun _ _ => rfl⟩
set_option maxRecDepth 20000 in
set_option maxHeartbeats 1000000 in
theorem Mo_takeOut_ok {i g0 : Nat} {ls : sL} (hi : i < 70) (hl : ls.length ≤ 80) (hb : sl_gb ls) (hg : g0 < 2 ^ 62) (hM : MoK h0 h ad tg T iv ia la) (e2 : ia 2 i = nI ls.length) (e3 : mo_cn i ls ia la) (hk : ∀ h' ia' la', MoK h0 h' ad tg T iv ia' la' → ia' 2 i = nI (sl_rs ls g0).length → mo_cn i (sl_rs ls g0) ia' la' → mo_ag i ia ia' la la' → mo_lr ia ia' la la' → P none h' n) : ev_Run G l d bc bs mMo_takeOut 0 [some (.ref (ad 1000)), some (.int (nI i)), some (.long (lN g0)), none, none, none, none, none, none, none, none, none] [] h n P := by
  have loop : ∀ e k x zs c h' ia' la' w8 w10, k + e = ls.length → zs.length = c → c ≤ k → x < 2 ^ 62 → MoK h0 h' ad tg T iv ia' la' → ia' 2 = ia 2 → mo_cn i zs ia' la' → (∀ k' p, k ≤ k' → ls[k']? = some p → ia' 3 (81 * i + k') = nI p.1 ∧ la' 4 (81 * i + k') = lN p.2) → mo_ag i ia ia' la la' → mo_lr ia ia' la la' → zs ++ sl_rs (ls.drop k) x = sl_rs ls g0 → ev_Run G l d bc bs mMo_takeOut 9 [some (.ref (ad 1000)), some (.int (nI i)), some (.long (lN g0)), none, some (.long (lN x)), none, some (.int (nI c)), some (.int (nI k)), w8, none, w10, none] [] h' n P := by
    intro e
    induction e with
    | zero =>
      intro k x zs c h' ia' la' w8 w10 hke hc hck hx hM' f2 f3 f4 ha hr he
      rw [List.drop_eq_nil_of_le (by omega)] at he
      have he : zs = sl_rs ls g0 := by simpa [sl_rs] using he
      subst he
      refine ev_iload dMo_takeOut_9 rfl ?_
      refine ev_aload_n dMo_takeOut_11 rfl rfl ?_
      refine ev_get dMo_takeOut_12 fMo_13 hM'.2.1.1 rfl ?_
      refine ev_iload_n dMo_takeOut_15 rfl rfl ?_
      refine ev_iald dMo_takeOut_16 hM'.2.1.g2 rfl rfl (by omega) (by decide) ?_
      refine ev_top (((congrFun f2 i).trans e2)) ?_
      refine ev_icmp_ge (tgt := 116) dMo_takeOut_17 (by decide) (fun c17 => ?_) (fun c17 => absurd (nI_le (by omega) (by omega)) c17)
      refine ev_aload_n dMo_takeOut_116 rfl rfl ?_
      refine ev_get dMo_takeOut_117 fMo_13 hM'.2.1.1 rfl ?_
      refine ev_iload_n dMo_takeOut_120 rfl rfl ?_
      refine ev_iload dMo_takeOut_121 rfl ?_
      refine ev_iast dMo_takeOut_123 hM'.2.1.g2 rfl rfl (by omega) (by decide) ?_
      refine mo_ist (j := 2) (t := 0) (N := 70) hM' (by decide) (fun h123 m123 => ?_)
      refine ev_vret dMo_takeOut_124 rfl ?_
      exact hk _ _ _ m123 (Eq.trans (pk_us (f := ia' 2)) (by rw [hc])) f3 (ha.tr ag_2) ⟨fun j j1 j2 => (upv_n j1).trans (hr.1 j j1 j2), hr.2⟩
    | succ e ih =>
      intro k x zs c h' ia' la' w8 w10 hke hc hck hx hM' f2 f3 f4 ha hr he
      obtain ⟨p, hp⟩ := sl_get (ls := ls) (j := k) (by omega)
      have hp2 := hb p (List.mem_of_getElem? hp)
      rw [sl_drop hp, sl_rs] at he
      refine ev_iload dMo_takeOut_9 rfl ?_
      refine ev_aload_n dMo_takeOut_11 rfl rfl ?_
      refine ev_get dMo_takeOut_12 fMo_13 hM'.2.1.1 rfl ?_
      refine ev_iload_n dMo_takeOut_15 rfl rfl ?_
      refine ev_iald dMo_takeOut_16 hM'.2.1.g2 rfl rfl (by omega) (by decide) ?_
      refine ev_top (((congrFun f2 i).trans e2)) ?_
      refine ev_icmp_ge (tgt := 116) dMo_takeOut_17 (by decide) (fun c17 => False.elim (absurd c17 (nI_ge (by omega) (by omega)))) (fun c17 => ?_)
      refine ev_aload_n dMo_takeOut_20 rfl rfl ?_
      refine ev_get dMo_takeOut_21 fMo_19 hM'.2.1.1 rfl ?_
      refine ev_bipush (v := nI 81) dMo_takeOut_24 (by decide) ?_
      refine ev_iload_n dMo_takeOut_26 rfl rfl ?_
      refine ev_imul dMo_takeOut_27 ?_
      refine ev_iload dMo_takeOut_28 rfl ?_
      refine ev_iadd dMo_takeOut_30 ?_
      refine ev_lald dMo_takeOut_31 hM'.2.1.g4 rfl (mo_ix _ _) (by omega) (by decide) ?_
      refine ev_topl ((f4 k p (Nat.le_refl _) hp).2) ?_
      refine ev_lstore dMo_takeOut_32 (by decide) ?_
      refine ev_lload dMo_takeOut_34 rfl ?_
      refine ev_lload dMo_takeOut_36 rfl ?_
      refine ev_lcmp_ge (tgt := 47) dMo_takeOut_38 dMo_takeOut_39 (by decide) (fun c38 => ?_) (fun c38 => ?_)
      · rw [pk_lLE (by omega) (by omega)] at c38
        refine ev_lload dMo_takeOut_47 rfl ?_
        refine ev_lstore dMo_takeOut_49 (by decide) ?_
        refine ev_lload dMo_takeOut_51 rfl ?_
        refine ev_lload dMo_takeOut_53 rfl ?_
        refine ev_lsub dMo_takeOut_55 ?_
        refine ev_topl (lN_sub (by omega)) ?_
        refine ev_lstore dMo_takeOut_56 (by decide) ?_
        refine ev_lload dMo_takeOut_58 rfl ?_
        refine ev_lload dMo_takeOut_60 rfl ?_
        refine ev_lcmp_le (tgt := 110) dMo_takeOut_62 dMo_takeOut_63 (by decide) (fun c62 => ?_) (fun c62 => ?_)
        · rw [pk_lLE (by omega) (by omega)] at c62
          rw [if_pos c62] at he
          refine ev_iinc dMo_takeOut_110 rfl (ev_inc1 _) (by decide) ?_
          refine ev_goto (tgt := 9) dMo_takeOut_113 (by decide) ?_
          exact ih (k + 1) (x - x) zs c _ _ _ _ _ (by omega) hc (by omega) (by omega) hM' f2 f3 (fun k' q hk' hq => f4 k' q (by omega) hq) ha hr (by rw [show x - x = x - p.2 by omega]; exact he)
        · rw [pk_lLE (by omega) (by omega)] at c62
          rw [if_neg c62] at he
          refine ev_aload_n dMo_takeOut_66 rfl rfl ?_
          refine ev_get dMo_takeOut_67 fMo_16 hM'.2.1.1 rfl ?_
          refine ev_bipush (v := nI 81) dMo_takeOut_70 (by decide) ?_
          refine ev_iload_n dMo_takeOut_72 rfl rfl ?_
          refine ev_imul dMo_takeOut_73 ?_
          refine ev_iload dMo_takeOut_74 rfl ?_
          refine ev_iadd dMo_takeOut_76 ?_
          refine ev_aload_n dMo_takeOut_77 rfl rfl ?_
          refine ev_get dMo_takeOut_78 fMo_16 hM'.2.1.1 rfl ?_
          refine ev_bipush (v := nI 81) dMo_takeOut_81 (by decide) ?_
          refine ev_iload_n dMo_takeOut_83 rfl rfl ?_
          refine ev_imul dMo_takeOut_84 ?_
          refine ev_iload dMo_takeOut_85 rfl ?_
          refine ev_iadd dMo_takeOut_87 ?_
          refine ev_iald dMo_takeOut_88 hM'.2.1.g3 rfl (mo_ix _ _) (by omega) (by decide) ?_
          refine ev_top ((f4 k p (Nat.le_refl _) hp).1) ?_
          refine ev_iast dMo_takeOut_89 hM'.2.1.g3 rfl (mo_ix _ _) (by omega) (by decide) ?_
          refine mo_ist (j := 3) (t := 0) (N := 5670) hM' (by decide) (fun h89 m89 => ?_)
          refine ev_aload_n dMo_takeOut_90 rfl rfl ?_
          refine ev_get dMo_takeOut_91 fMo_19 m89.2.1.1 rfl ?_
          refine ev_bipush (v := nI 81) dMo_takeOut_94 (by decide) ?_
          refine ev_iload_n dMo_takeOut_96 rfl rfl ?_
          refine ev_imul dMo_takeOut_97 ?_
          refine ev_iload dMo_takeOut_98 rfl ?_
          refine ev_iadd dMo_takeOut_100 ?_
          refine ev_lload dMo_takeOut_101 rfl ?_
          refine ev_lload dMo_takeOut_103 rfl ?_
          refine ev_lsub dMo_takeOut_105 ?_
          refine ev_topl (lN_sub (by omega)) ?_
          refine ev_last dMo_takeOut_106 m89.2.1.g4 rfl (mo_ix _ _) (by omega) (by decide) ?_
          refine mo_lst (j := 4) (N := 5670) m89 (by decide) (fun h106 m106 => ?_)
          refine ev_iinc dMo_takeOut_107 rfl (ev_inc1 _) (by decide) ?_
          refine ev_iinc dMo_takeOut_110 rfl (ev_inc1 _) (by decide) ?_
          refine ev_goto (tgt := 9) dMo_takeOut_113 (by decide) ?_
          refine ih (k + 1) (x - x) (zs ++ [(p.1, p.2 - x)]) (c + 1) _ _ _ _ _ (by omega) (by simp [hc]) (by omega) (by omega) m106 f2 (fun k' q hq => ?_) (fun k' q hk' hq => ?_) (ha.tr (ag_34 (by omega))) ⟨fun j j1 j2 => (upv_n j2).trans (hr.1 j j1 j2), fun j j1 => (upv_n j1).trans (hr.2 j j1)⟩ (by rw [Nat.sub_self, sl_rs_0 (fun q hq => hb q (List.mem_of_mem_drop hq)), List.append_assoc]; exact he)
          · show upd (ia' 3) (81 * i + c) (nI p.1) (81 * i + k') = _ ∧ vp_updL (la' 4) (81 * i + c) (lN (p.2 - x)) (81 * i + k') = _; rcases Nat.lt_or_ge k' c with r | r; (rw [List.getElem?_append_left (by omega)] at hq; rw [pk_un (by omega), pk_uLn (by omega)]; exact f3 k' q hq); (have hk1 := (List.getElem?_eq_some_iff.mp hq).1; have hk2 : k' = zs.length := (by simp at hk1; omega); subst hk2; simp at hq; subst hq; subst hc; exact ⟨pk_us, pk_uLs⟩)
          · show upd (ia' 3) (81 * i + c) (nI p.1) (81 * i + k') = _ ∧ vp_updL (la' 4) (81 * i + c) (lN (p.2 - x)) (81 * i + k') = _; rw [pk_un (by omega), pk_uLn (by omega)]; exact f4 k' q (by omega) hq
      · rw [pk_lLE (by omega) (by omega)] at c38
        refine ev_lload dMo_takeOut_42 rfl ?_
        refine ev_goto (tgt := 49) dMo_takeOut_44 (by decide) ?_
        refine ev_lstore dMo_takeOut_49 (by decide) ?_
        refine ev_lload dMo_takeOut_51 rfl ?_
        refine ev_lload dMo_takeOut_53 rfl ?_
        refine ev_lsub dMo_takeOut_55 ?_
        refine ev_topl (lN_sub (by omega)) ?_
        refine ev_lstore dMo_takeOut_56 (by decide) ?_
        refine ev_lload dMo_takeOut_58 rfl ?_
        refine ev_lload dMo_takeOut_60 rfl ?_
        refine ev_lcmp_le (tgt := 110) dMo_takeOut_62 dMo_takeOut_63 (by decide) (fun c62 => ?_) (fun c62 => absurd (Int64.le_refl _) c62)
        refine ev_iinc dMo_takeOut_110 rfl (ev_inc1 _) (by decide) ?_
        refine ev_goto (tgt := 9) dMo_takeOut_113 (by decide) ?_
        exact ih (k + 1) (x - p.2) zs c _ _ _ _ _ (by omega) hc (by omega) (by omega) hM' f2 f3 (fun k' q hk' hq => f4 k' q (by omega) hq) ha hr (by rw [if_pos (by omega)] at he; exact he)
  refine ev_lload_n dMo_takeOut_0 rfl rfl ?_
  refine ev_lstore dMo_takeOut_1 (by decide) ?_
  refine ev_iconst (v := nI 0) dMo_takeOut_3 (by decide) ?_
  refine ev_istore dMo_takeOut_4 (by decide) ?_
  refine ev_iconst (v := nI 0) dMo_takeOut_6 (by decide) ?_
  refine ev_istore dMo_takeOut_7 (by decide) ?_
  exact loop ls.length 0 g0 [] 0 _ _ _ _ _ (by omega) rfl (by omega) hg hM rfl (fun k p hp => by simp at hp) (fun k' p _ hp => e3 k' p hp) mo_ag.rf ⟨fun _ _ _ => rfl, fun _ _ => rfl⟩ rfl
end MOP
