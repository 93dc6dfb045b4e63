/-! the reference: waste, correct -/
section MOW
variable {G : xG} {l : Launch} {d bc bs : Nat} {h h0 : xH} {n : Nat} {P : Option Value → xH → Nat → Prop} {ad tg : Nat → Nat} {T : Nat} {iv : Nat → Int32} {ia : Nat → Nat → Int32} {la : Nat → Nat → Int64} {ts : List sT}
set_option maxRecDepth 20000 in
set_option maxHeartbeats 2000000 in
theorem Mo_waste_ok {x : Int32} {g : Int64} (hM : MoK h0 h ad tg T iv ia la) (hT : MoT iv ia la ts) (hok : ∀ t ∈ (waste_s ts x g).2, t_ok t) (hk : ∀ h' iv' ia' la', MoK h0 h' ad tg T iv' ia' la' → MoT iv' ia' la' (waste_s ts x g).2 → mo_rest iv iv' ia ia' la la' → P (some (.long (waste_s ts x g).1)) h' n) : ev_Run G l (d + 2) bc bs mMo_waste 0 [some (.ref (ad 1000)), some (.int x), some (.long g), none] [] h n P := by
  have h70 := hT.2.1
  have refuse : waste_s ts x g = (-1, ts) → P (some (.long (-1))) h n := by
    intro he
    have := hk h iv ia la hM
    rw [he] at this
    exact this hT mo_rest.rf
  refine ev_aload_n dMo_waste_0 rfl rfl ?_
  refine ev_iload_n dMo_waste_1 rfl rfl ?_
  refine cz_Mo_isThing dMo_waste_2 lMo_94 hM.2.1.1 (Nat.le_of_ble_eq_true rfl) (Mo_isThing_ok hM hT (fun i t q => ?_) (fun q => ?_))
  · obtain ⟨rfl, e2, e3⟩ := fnd_some q
    have hi : i < ts.length := (List.getElem?_eq_some_iff.mp e2).1
    obtain ⟨⟨k1, k2, k3, k4, k5, k6, k7, k8, k9⟩, k10, o⟩ := hT.2.2.1 i t e2
    have htl := sl_tot_lt o.2.2.2.2.2.2.2.2.1 k10
    refine ev_if_eq (tgt := 17) dMo_waste_5 (by decide) (fun q9 => absurd q9 (by decide)) (fun _ => ?_)
    refine ev_aload_n dMo_waste_8 rfl rfl ?_
    refine ev_iload_n dMo_waste_9 rfl rfl ?_
    refine ev_lload_n dMo_waste_10 rfl rfl ?_
    refine cz_Mo_has dMo_waste_11 lMo_123 hM.2.1.1 (Nat.le_of_ble_eq_true rfl) (Mo_has_ok hM hT e2 (fun g1 => ?_) (fun g1 => ?_))
    · obtain ⟨g', hg1, hg2, rfl⟩ := lL_in (by omega) g1.1 g1.2
      have hy := waste_yes q g1
      rw [gN_lN (by omega)] at hy
      rw [hy] at hk hok
      refine ev_if_ne (tgt := 21) dMo_waste_14 (by decide) (fun _ => ?_) (fun q9 => absurd q9 (by decide))
      refine ev_aload_n dMo_waste_21 rfl rfl ?_
      refine ev_iload_n dMo_waste_22 rfl rfl ?_
      refine ev_lload_n dMo_waste_23 rfl rfl ?_
      refine cz_Mo_takeOut dMo_waste_24 lMo_135 hM.2.1.1 (Nat.le_of_ble_eq_true rfl) (Mo_takeOut_ok (by omega) k10 o.2.2.2.2.2.2.2.2.1 (by omega) hM k2 k3 (fun h1 ia1 la1 mt t2 t3 t4 t5 => ?_))
      obtain ⟨b1, b2, b3, b4, b5, b6, b7, b8, b9⟩ := mo_tL ⟨k1, k2, k3, k4, k5, k6, k7, k8, k9⟩ t2 t3 t5
      refine ev_aload_n dMo_waste_27 rfl rfl ?_
      refine ev_get dMo_waste_28 fMo_23 mt.2.1.1 rfl ?_
      refine ev_iload_n dMo_waste_31 rfl rfl ?_
      refine ev_dup2_11 dMo_waste_32 rfl rfl ?_
      refine ev_lald dMo_waste_33 mt.2.1.g5 rfl rfl (by omega) (by decide) ?_
      refine ev_topl (b4) ?_
      refine ev_lload_n dMo_waste_34 rfl rfl ?_
      refine ev_ladd dMo_waste_35 ?_
      refine ev_topl (lN_add _ _) ?_
      refine ev_last dMo_waste_36 mt.2.1.g5 rfl rfl (by omega) (by decide) ?_
      refine mo_lst (j := 5) (N := 70) mt (by decide) (fun h36 m36 => ?_)
      refine ev_aload_n dMo_waste_37 rfl rfl ?_
      refine ev_get dMo_waste_38 fMo_23 m36.2.1.1 rfl ?_
      refine ev_iload_n dMo_waste_41 rfl rfl ?_
      refine ev_lald dMo_waste_42 m36.2.1.g5 rfl rfl (by omega) (by decide) ?_
      refine ev_topl ((show upv la1 5 (vp_updL (la1 5) i (lN (t_lost t + g'))) 5 i = lN (t_lost t + g') from pk_uLs)) ?_
      refine ev_lret dMo_waste_43 rfl ?_
      exact hk _ _ _ _ m36 (MoT_set hT hi rfl (t4.tr ag_5) ⟨b1, b2, b3, pk_uLs, b5, b6, b7, b8, b9⟩ (Nat.le_trans (sl_rs_len _ _) k10) (hok _ (List.mem_of_getElem? (i := i) (List.getElem?_set_self hi)))) (t5.rest.tr (rest_l (by omega)))
    · refine ev_if_ne (tgt := 21) dMo_waste_14 (by decide) (fun q9 => absurd (by decide) q9) (fun _ => ?_)
      refine ev_ldc2 (v := -1) dMo_waste_17 qMo_138 ?_
      refine ev_lret dMo_waste_20 rfl ?_
      exact refuse (waste_no (fun p h1 z => by rw [q] at h1; cases h1; exact g1 z))
  · refine ev_if_eq (tgt := 17) dMo_waste_5 (by decide) (fun _ => ?_) (fun q9 => absurd (by decide) q9)
    refine ev_ldc2 (v := -1) dMo_waste_17 qMo_138 ?_
    refine ev_lret dMo_waste_20 rfl ?_
    exact refuse (waste_no (fun p h1 => by rw [q] at h1; cases h1))
abbrev corr_ia (ia : Nat → Nat → Int32) (i k : Nat) : Nat → Nat → Int32 := upv (upv ia 2 (upd (ia 2) i (nI k))) 3 (upd (upv ia 2 (upd (ia 2) i (nI k)) 3) (81 * i) (nI i))
abbrev corr_la (la : Nat → Nat → Int64) (i g y : Nat) : Nat → Nat → Int64 := upv (upv la 10 (vp_updL (la 10) i (lN g))) 4 (vp_updL (upv la 10 (vp_updL (la 10) i (lN g)) 4) (81 * i) (lN y))
theorem corr_end {i g y : Nat} {t : sT} {ls : sL} (ht : mo_t i t ia la) (hl : ls = [] ∨ ls = [(i, y)]) : mo_ag i ia (corr_ia ia i ls.length) la (corr_la la i g y) ∧ mo_t i (t_setG (t_setL t ls) g) (corr_ia ia i ls.length) (corr_la la i g y) ∧ ls.length ≤ 80 := by
  obtain ⟨b1, b2, b3, b4, b5, b6, b7, b8, b9⟩ := ht
  refine ⟨fun k hk => ⟨rfl, ?_, fun c hc => ⟨?_, ?_⟩, rfl, rfl, rfl, rfl, rfl, ?_⟩, ⟨b1, ?_, fun c q hq => ?_, b4, b5, b6, b7, b8, ?_⟩, ?_⟩
  · show upd (ia 2) i _ k = ia 2 k
    exact pk_un (by omega)
  · show upd (ia 3) (81 * i) _ (81 * k + c) = ia 3 (81 * k + c)
    exact pk_un (by omega)
  · show vp_updL (la 4) (81 * i) _ (81 * k + c) = la 4 (81 * k + c)
    exact pk_uLn (by omega)
  · show vp_updL (la 10) i _ k = la 10 k
    exact pk_uLn (by omega)
  · show upd (ia 2) i _ i = _
    exact pk_us
  · have hq : ls[c]? = some q := hq
    rcases hl with rfl | rfl
    · simp at hq
    · have hc : c = 0 := by
        have := (List.getElem?_eq_some_iff.mp hq).1
        have : c < 1 := this
        omega
      subst hc
      cases hq
      exact ⟨pk_us, pk_uLs⟩
  · show vp_updL (la 10) i _ i = _
    exact pk_uLs
  · rcases hl with rfl | rfl <;> simp
set_option maxRecDepth 20000 in
set_option maxHeartbeats 2000000 in
theorem Mo_correct_ok {x : Int32} {g : Int64} (hM : MoK h0 h ad tg T iv ia la) (hT : MoT iv ia la ts) (hok : ∀ t ∈ (correct_s ts x g).2, t_ok t) (hk : ∀ h' iv' ia' la', MoK h0 h' ad tg T iv' ia' la' → MoT iv' ia' la' (correct_s ts x g).2 → mo_rest iv iv' ia ia' la la' → P (some (.int (correct_s ts x g).1)) h' n) : ev_Run G l (d + 2) bc bs mMo_correct 0 [some (.ref (ad 1000)), some (.int x), some (.long g), none, none, none] [] h n P := by
  have h70 := hT.2.1
  have refuse : correct_s ts x g = (nI 0, ts) → P (some (.int (nI 0))) h n := by
    intro he
    have := hk h iv ia la hM
    rw [he] at this
    exact this hT mo_rest.rf
  refine ev_aload_n dMo_correct_0 rfl rfl ?_
  refine ev_iload_n dMo_correct_1 rfl rfl ?_
  refine ev_iconst (v := nI 1) dMo_correct_2 (by decide) ?_
  refine cz_Mo_isOf dMo_correct_3 lMo_116 hM.2.1.1 (Nat.le_of_ble_eq_true rfl) (Mo_isOf_ok (w := 1) (by decide) hM hT (fun i t q q2 => ?_) (fun q => ?_))
  · obtain ⟨rfl, e2, e3⟩ := fnd_some q
    have hi : i < ts.length := (List.getElem?_eq_some_iff.mp e2).1
    obtain ⟨kk, k10, o⟩ := hT.2.2.1 i t e2
    have k9 := kk.2.2.2.2.2.2.2.2
    have htl := sl_tot_lt o.2.2.2.2.2.2.2.2.1 k10
    have o5 := o.2.2.2.2.1
    have ref2 : ¬ corr_c (i, t) g → P (some (.int (nI 0))) h n := (fun hc => refuse (corr_no (fun p h1 z => hc (by rw [q] at h1; cases h1; exact z))))
    refine ev_if_eq (tgt := 23) dMo_correct_6 (by decide) (fun q9 => absurd q9 (by decide)) (fun _ => ?_)
    refine ev_lload_n dMo_correct_9 rfl rfl ?_
    refine ev_lconst (v := lN 1) dMo_correct_10 (by decide) ?_
    refine ev_lcmp_lt (tgt := 23) dMo_correct_11 dMo_correct_12 (by decide) (fun c11 => ?_) (fun c11 => ?_)
    · refine ev_iconst (v := nI 0) dMo_correct_23 (by decide) ?_
      refine ev_iret dMo_correct_24 rfl rfl ?_
      exact ref2 (fun z => lI_le_nlt z.2.1.1 c11)
    · refine ev_lload_n dMo_correct_15 rfl rfl ?_
      refine ev_ldc2 (v := lN 1000000000) dMo_correct_16 qMo_98 ?_
      refine ev_lcmp_le (tgt := 25) dMo_correct_19 dMo_correct_20 (by decide) (fun c19 => ?_) (fun c19 => ?_)
      · obtain ⟨g', hg1, hg2, rfl⟩ := lL_in (by decide) (lI_nlt c11) c19
        refine ev_aload_n dMo_correct_25 rfl rfl ?_
        refine ev_iload_n dMo_correct_26 rfl rfl ?_
        refine cz_Mo_gramsIn dMo_correct_27 lMo_112 hM.2.1.1 (Nat.le_of_ble_eq_true rfl) (Mo_gramsIn_ok hM hT e2 ?_)
        refine ev_lload_n dMo_correct_30 rfl rfl ?_
        refine ev_ladd dMo_correct_31 ?_
        refine ev_topl (lN_add _ _) ?_
        refine ev_aload_n dMo_correct_32 rfl rfl ?_
        refine ev_get dMo_correct_33 fMo_39 hM.2.1.1 rfl ?_
        refine ev_iload_n dMo_correct_36 rfl rfl ?_
        refine ev_lald dMo_correct_37 hM.2.1.g10 rfl rfl (by omega) (by decide) ?_
        refine ev_topl (k9) ?_
        refine ev_lsub dMo_correct_38 ?_
        refine ev_lstore dMo_correct_39 (by decide) ?_
        refine ev_lload dMo_correct_41 rfl ?_
        refine ev_lconst (v := lN 0) dMo_correct_43 (by decide) ?_
        refine ev_lcmp_ge (tgt := 50) dMo_correct_44 dMo_correct_45 (by decide) (fun c44 => ?_) (fun c44 => ?_)
        · have hle : t_told t ≤ sl_tot (t_ls t) + g' := (by rw [Int64.le_iff_toInt_le, lN_subT (by omega) (by omega), pk_lT (by omega)] at c44; omega)
          have hy := corr_yes q (show corr_c (i, t) (lN g') from ⟨q2, ⟨lI_nlt c11, c19⟩, by rw [gN_lN (by omega)]; exact hle⟩)
          rw [gN_lN (by omega)] at hy
          simp only [] at hy
          rw [hy] at hk hok
          have ot := hok _ (List.mem_of_getElem? (i := i) (List.getElem?_set_self hi))
          rw [lN_sub hle]
          refine ev_aload_n dMo_correct_50 rfl rfl ?_
          refine ev_get dMo_correct_51 fMo_39 hM.2.1.1 rfl ?_
          refine ev_iload_n dMo_correct_54 rfl rfl ?_
          refine ev_lload_n dMo_correct_55 rfl rfl ?_
          refine ev_last dMo_correct_56 hM.2.1.g10 rfl rfl (by omega) (by decide) ?_
          refine mo_lst (j := 10) (N := 70) hM (by decide) (fun h56 m56 => ?_)
          refine ev_aload_n dMo_correct_57 rfl rfl ?_
          refine ev_get dMo_correct_58 fMo_13 m56.2.1.1 rfl ?_
          refine ev_iload_n dMo_correct_61 rfl rfl ?_
          refine ev_lload dMo_correct_62 rfl ?_
          refine ev_lconst (v := lN 0) dMo_correct_64 (by decide) ?_
          refine ev_lcmp_ne (tgt := 73) dMo_correct_65 dMo_correct_66 (by decide) (fun c65 => ?_) (fun c65 => ?_)
          · have hnow : ¬ sl_tot (t_ls t) + g' - t_told t = 0 := (fun z => c65 (by rw [z]))
            rw [if_neg hnow] at hk ot
            refine ev_iconst (v := nI 1) dMo_correct_73 (by decide) ?_
            refine ev_iast dMo_correct_74 m56.2.1.g2 rfl rfl (by omega) (by decide) ?_
            refine mo_ist (j := 2) (t := 0) (N := 70) m56 (by decide) (fun h74 m74 => ?_)
            refine ev_aload_n dMo_correct_75 rfl rfl ?_
            refine ev_get dMo_correct_76 fMo_16 m74.2.1.1 rfl ?_
            refine ev_bipush (v := nI 81) dMo_correct_79 (by decide) ?_
            refine ev_iload_n dMo_correct_81 rfl rfl ?_
            refine ev_imul dMo_correct_82 ?_
            refine ev_iload_n dMo_correct_83 rfl rfl ?_
            refine ev_iast dMo_correct_84 m74.2.1.g3 rfl (nI_mul _ _) (by omega) (by decide) ?_
            refine mo_ist (j := 3) (t := 0) (N := 5670) m74 (by decide) (fun h84 m84 => ?_)
            refine ev_aload_n dMo_correct_85 rfl rfl ?_
            refine ev_get dMo_correct_86 fMo_19 m84.2.1.1 rfl ?_
            refine ev_bipush (v := nI 81) dMo_correct_89 (by decide) ?_
            refine ev_iload_n dMo_correct_91 rfl rfl ?_
            refine ev_imul dMo_correct_92 ?_
            refine ev_lload dMo_correct_93 rfl ?_
            refine ev_last dMo_correct_95 m84.2.1.g4 rfl (nI_mul _ _) (by omega) (by decide) ?_
            refine mo_lst (j := 4) (N := 5670) m84 (by decide) (fun h95 m95 => ?_)
            refine ev_iconst (v := nI 1) dMo_correct_96 (by decide) ?_
            refine ev_iret dMo_correct_97 rfl rfl ?_
            have E := corr_end (g := g') (y := sl_tot (t_ls t) + g' - t_told t) kk (Or.inr rfl)
            exact hk _ _ _ _ m95 (MoT_set hT hi rfl E.1 E.2.1 E.2.2 ot) ⟨fun j hj => ⟨by rw [upv_n (by omega), upv_n (by omega)], by rw [upv_n (by omega), upv_n (by omega)]⟩, fun _ _ => rfl⟩
          · have hnow : sl_tot (t_ls t) + g' - t_told t = 0 := (pk_lEQ (by omega) (by omega)).mp c65
            rw [if_pos hnow] at hk ot
            refine ev_iconst (v := nI 0) dMo_correct_69 (by decide) ?_
            refine ev_goto (tgt := 74) dMo_correct_70 (by decide) ?_
            refine ev_iast dMo_correct_74 m56.2.1.g2 rfl rfl (by omega) (by decide) ?_
            refine mo_ist (j := 2) (t := 0) (N := 70) m56 (by decide) (fun h74 m74 => ?_)
            refine ev_aload_n dMo_correct_75 rfl rfl ?_
            refine ev_get dMo_correct_76 fMo_16 m74.2.1.1 rfl ?_
            refine ev_bipush (v := nI 81) dMo_correct_79 (by decide) ?_
            refine ev_iload_n dMo_correct_81 rfl rfl ?_
            refine ev_imul dMo_correct_82 ?_
            refine ev_iload_n dMo_correct_83 rfl rfl ?_
            refine ev_iast dMo_correct_84 m74.2.1.g3 rfl (nI_mul _ _) (by omega) (by decide) ?_
            refine mo_ist (j := 3) (t := 0) (N := 5670) m74 (by decide) (fun h84 m84 => ?_)
            refine ev_aload_n dMo_correct_85 rfl rfl ?_
            refine ev_get dMo_correct_86 fMo_19 m84.2.1.1 rfl ?_
            refine ev_bipush (v := nI 81) dMo_correct_89 (by decide) ?_
            refine ev_iload_n dMo_correct_91 rfl rfl ?_
            refine ev_imul dMo_correct_92 ?_
            refine ev_lload dMo_correct_93 rfl ?_
            refine ev_last dMo_correct_95 m84.2.1.g4 rfl (nI_mul _ _) (by omega) (by decide) ?_
            refine mo_lst (j := 4) (N := 5670) m84 (by decide) (fun h95 m95 => ?_)
            refine ev_iconst (v := nI 1) dMo_correct_96 (by decide) ?_
            refine ev_iret dMo_correct_97 rfl rfl ?_
            have E := corr_end (g := g') (y := sl_tot (t_ls t) + g' - t_told t) kk (Or.inl rfl)
            exact hk _ _ _ _ m95 (MoT_set hT hi rfl E.1 E.2.1 E.2.2 ot) ⟨fun j hj => ⟨by rw [upv_n (by omega), upv_n (by omega)], by rw [upv_n (by omega), upv_n (by omega)]⟩, fun _ _ => rfl⟩
        · skip
          refine ev_iconst (v := nI 0) dMo_correct_48 (by decide) ?_
          refine ev_iret dMo_correct_49 rfl rfl ?_
          exact ref2 (fun z => c44 (by have : t_told t ≤ sl_tot (t_ls t) + gN (lN g') := z.2.2; rw [gN_lN (by omega)] at this; rw [lN_sub this, pk_lLE (by omega) (by omega)]; omega))
      · skip
        refine ev_iconst (v := nI 0) dMo_correct_23 (by decide) ?_
        refine ev_iret dMo_correct_24 rfl rfl ?_
        exact ref2 (fun z => c19 z.2.1.2)
  · refine ev_if_eq (tgt := 23) dMo_correct_6 (by decide) (fun _ => ?_) (fun q9 => absurd (by decide) q9)
    refine ev_iconst (v := nI 0) dMo_correct_23 (by decide) ?_
    refine ev_iret dMo_correct_24 rfl rfl ?_
    exact refuse (corr_no (fun p h1 z => q p.1 p.2 h1 z.1))
end MOW
