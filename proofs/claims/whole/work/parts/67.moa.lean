/-! the reference: all -/
theorem map_take {f : sT → Nat} {ts : List sT} {i : Nat} {t : sT} (h : ts[i]? = some t) : ((ts.take (i + 1)).map f).sum = ((ts.take i).map f).sum + f t := by
  simp [List.take_add_one, h]
section MOA
variable {G : xG} {l : Launch} {d bc bs : Nat} {h h0 : xH} {n : Nat} {P : Option Value → xH → Nat → Prop} {ad tg : Nat → Nat} {T : Nat} {iv : Nat → Int32} {ia : Nat → Nat → Int32} {la : Nat → Nat → Int64} {ts : List sT} {us : List sU} {cs : List Int32} {as : List sA}
set_option maxRecDepth 20000 in
set_option maxHeartbeats 1000000 in
theorem Mo_allIn_ok {w : Nat} (hw : w < 2 ^ 31) (hM : MoK h0 h ad tg T iv ia la) (hT : MoT iv ia la ts) (hk : P (some (.long (lN (sumk ts w)))) h n) : ev_Run G l (d + 1) bc bs mMo_allIn 0 [some (.ref (ad 1000)), some (.int (nI w)), none, none, none] [] h n P := by
  have h70 := hT.2.1
  have e0 := hT.1
  have loop : ∀ e i, i + e = ts.length → ev_Run G l (d + 1) bc bs mMo_allIn 5 [some (.ref (ad 1000)), some (.int (nI w)), some (.long (lN (sumk (ts.take i) w))), none, some (.int (nI i))] [] h n P := by
    intro e
    induction e with
    | zero =>
      intro i hi
      refine ev_iload dMo_allIn_5 rfl ?_
      refine ev_aload_n dMo_allIn_7 rfl rfl ?_
      refine ev_get dMo_allIn_8 fMo_90 hM.2.1.1 rfl ?_
      refine ev_icmp_ge (tgt := 44) dMo_allIn_11 (by decide) (fun c11 => ?_) (fun c11 => absurd ((show iv 0 ≤ nI i by rw [e0]; exact nI_le (by omega) (by omega))) c11)
      refine ev_lload_n dMo_allIn_44 rfl rfl ?_
      refine ev_lret dMo_allIn_45 rfl ?_
      rw [List.take_of_length_le (by omega)]
      exact hk
    | succ e ih =>
      intro i hi
      obtain ⟨t, ht⟩ : ∃ t, ts[i]? = some t := ⟨_, List.getElem?_eq_getElem (by omega)⟩
      obtain ⟨⟨k1, -⟩, k10, o⟩ := hT.2.2.1 i t ht
      have o1 := o.1
      have hq := ih (i + 1) (by omega)
      rw [sumk, map_take ht] at hq
      refine ev_iload dMo_allIn_5 rfl ?_
      refine ev_aload_n dMo_allIn_7 rfl rfl ?_
      refine ev_get dMo_allIn_8 fMo_90 hM.2.1.1 rfl ?_
      refine ev_icmp_ge (tgt := 44) dMo_allIn_11 (by decide) (fun c11 => False.elim (absurd (show nI ts.length ≤ nI i by rw [← e0]; exact c11) (nI_ge (by omega) (by omega)))) (fun c11 => ?_)
      refine ev_lload_n dMo_allIn_14 rfl rfl ?_
      refine ev_aload_n dMo_allIn_15 rfl rfl ?_
      refine ev_get dMo_allIn_16 fMo_7 hM.2.1.1 rfl ?_
      refine ev_iload dMo_allIn_19 rfl ?_
      refine ev_iald dMo_allIn_21 hM.2.1.g1 rfl rfl (by omega) (by decide) ?_
      refine ev_top (k1) ?_
      refine ev_iload_n dMo_allIn_22 rfl rfl ?_
      refine ev_icmp_ne (tgt := 35) dMo_allIn_23 (by decide) (fun c23 => ?_) (fun c23 => ?_)
      · rw [if_neg (fun z => c23 (by rw [z]))] at hq
        refine ev_lconst (v := lN 0) dMo_allIn_35 (by decide) ?_
        refine ev_ladd dMo_allIn_36 ?_
        refine ev_topl (lN_add _ _) ?_
        refine ev_lstore_n dMo_allIn_37 rfl (by decide) ?_
        refine ev_iinc dMo_allIn_38 rfl (ev_inc1 _) (by decide) ?_
        refine ev_goto (tgt := 5) dMo_allIn_41 (by decide) ?_
        exact hq
      · rw [if_pos ((nI_eq (by omega) hw).mp c23)] at hq
        refine ev_aload_n dMo_allIn_26 rfl rfl ?_
        refine ev_iload dMo_allIn_27 rfl ?_
        refine cz_Mo_gramsIn dMo_allIn_29 lMo_112 hM.2.1.1 (Nat.le_of_ble_eq_true rfl) (Mo_gramsIn_ok hM hT ht ?_)
        refine ev_goto (tgt := 36) dMo_allIn_32 (by decide) ?_
        refine ev_ladd dMo_allIn_36 ?_
        refine ev_topl (lN_add _ _) ?_
        refine ev_lstore_n dMo_allIn_37 rfl (by decide) ?_
        refine ev_iinc dMo_allIn_38 rfl (ev_inc1 _) (by decide) ?_
        refine ev_goto (tgt := 5) dMo_allIn_41 (by decide) ?_
        exact hq
  refine ev_lconst (v := lN 0) dMo_allIn_0 (by decide) ?_
  refine ev_lstore_n dMo_allIn_1 rfl (by decide) ?_
  refine ev_iconst (v := nI 0) dMo_allIn_2 (by decide) ?_
  refine ev_istore dMo_allIn_3 (by decide) ?_
  exact loop ts.length 0 (by omega)
set_option maxRecDepth 20000 in
set_option maxHeartbeats 1000000 in
theorem Mo_all_ok {x : Int32} (hM : MoK h0 h ad tg T iv ia la) (hT : MoT iv ia la ts) (hU : MoU iv ia us) (hG : MoG iv ia la cs as) (hk : P (some (.long (all_s ts us cs x))) h n) : ev_Run G l (d + 2) bc bs mMo_all 0 [some (.ref (ad 1000)), some (.int x), none, none, none] [] h n P := by
  have h70 := hT.2.1
  have e0 := hT.1
  have u1 := hU.1
  have u2 := hU.2.1
  have g1 := hG.1
  have g2 := hG.2.1
  have loop1 : P (some (.long (lN ((ts.map t_told).sum)))) h n → ∀ y e i, i + e = ts.length → ev_Run G l (d + 2) bc bs mMo_all 51 [some (.ref (ad 1000)), some (.int y), some (.long (lN (((ts.take i).map t_told).sum))), none, some (.int (nI i))] [] h n P := by
    intro hk y e
    induction e with
    | zero =>
      intro i hi
      refine ev_iload dMo_all_51 rfl ?_
      refine ev_aload_n dMo_all_53 rfl rfl ?_
      refine ev_get dMo_all_54 fMo_90 hM.2.1.1 rfl ?_
      refine ev_icmp_ge (tgt := 76) dMo_all_57 (by decide) (fun c57 => ?_) (fun c57 => absurd ((show iv 0 ≤ nI i by rw [e0]; exact nI_le (by omega) (by omega))) c57)
      refine ev_lload_n dMo_all_76 rfl rfl ?_
      refine ev_lret dMo_all_77 rfl ?_
      rw [List.take_of_length_le (by omega)]
      exact hk
    | succ e ih =>
      intro i hi
      obtain ⟨t, ht⟩ : ∃ t, ts[i]? = some t := ⟨_, List.getElem?_eq_getElem (by omega)⟩
      obtain ⟨⟨k1, k2, k3, k4, k5, k6, k7, k8, k9⟩, k10, o⟩ := hT.2.2.1 i t ht
      have hq := ih (i + 1) (by omega)
      rw [map_take ht] at hq
      refine ev_iload dMo_all_51 rfl ?_
      refine ev_aload_n dMo_all_53 rfl rfl ?_
      refine ev_get dMo_all_54 fMo_90 hM.2.1.1 rfl ?_
      refine ev_icmp_ge (tgt := 76) dMo_all_57 (by decide) (fun c57 => False.elim (absurd (show nI ts.length ≤ nI i by rw [← e0]; exact c57) (nI_ge (by omega) (by omega)))) (fun c57 => ?_)
      refine ev_lload_n dMo_all_60 rfl rfl ?_
      refine ev_aload_n dMo_all_61 rfl rfl ?_
      refine ev_get dMo_all_62 fMo_39 hM.2.1.1 rfl ?_
      refine ev_iload dMo_all_65 rfl ?_
      refine ev_lald dMo_all_67 hM.2.1.g10 rfl rfl (by omega) (by decide) ?_
      refine ev_topl (k9) ?_
      refine ev_ladd dMo_all_68 ?_
      refine ev_topl (lN_add _ _) ?_
      refine ev_lstore_n dMo_all_69 rfl (by decide) ?_
      refine ev_iinc dMo_all_70 rfl (ev_inc1 _) (by decide) ?_
      refine ev_goto (tgt := 51) dMo_all_73 (by decide) ?_
      exact hq
  have loop2 : P (some (.long (lN ((ts.map t_lost).sum)))) h n → ∀ y e i, i + e = ts.length → ev_Run G l (d + 2) bc bs mMo_all 87 [some (.ref (ad 1000)), some (.int y), some (.long (lN (((ts.take i).map t_lost).sum))), none, some (.int (nI i))] [] h n P := by
    intro hk y e
    induction e with
    | zero =>
      intro i hi
      refine ev_iload dMo_all_87 rfl ?_
      refine ev_aload_n dMo_all_89 rfl rfl ?_
      refine ev_get dMo_all_90 fMo_90 hM.2.1.1 rfl ?_
      refine ev_icmp_ge (tgt := 112) dMo_all_93 (by decide) (fun c93 => ?_) (fun c93 => absurd ((show iv 0 ≤ nI i by rw [e0]; exact nI_le (by omega) (by omega))) c93)
      refine ev_lload_n dMo_all_112 rfl rfl ?_
      refine ev_lret dMo_all_113 rfl ?_
      rw [List.take_of_length_le (by omega)]
      exact hk
    | succ e ih =>
      intro i hi
      obtain ⟨t, ht⟩ : ∃ t, ts[i]? = some t := ⟨_, List.getElem?_eq_getElem (by omega)⟩
      obtain ⟨⟨k1, k2, k3, k4, -⟩, k10, o⟩ := hT.2.2.1 i t ht
      have hq := ih (i + 1) (by omega)
      rw [map_take ht] at hq
      refine ev_iload dMo_all_87 rfl ?_
      refine ev_aload_n dMo_all_89 rfl rfl ?_
      refine ev_get dMo_all_90 fMo_90 hM.2.1.1 rfl ?_
      refine ev_icmp_ge (tgt := 112) dMo_all_93 (by decide) (fun c93 => False.elim (absurd (show nI ts.length ≤ nI i by rw [← e0]; exact c93) (nI_ge (by omega) (by omega)))) (fun c93 => ?_)
      refine ev_lload_n dMo_all_96 rfl rfl ?_
      refine ev_aload_n dMo_all_97 rfl rfl ?_
      refine ev_get dMo_all_98 fMo_23 hM.2.1.1 rfl ?_
      refine ev_iload dMo_all_101 rfl ?_
      refine ev_lald dMo_all_103 hM.2.1.g5 rfl rfl (by omega) (by decide) ?_
      refine ev_topl (k4) ?_
      refine ev_ladd dMo_all_104 ?_
      refine ev_topl (lN_add _ _) ?_
      refine ev_lstore_n dMo_all_105 rfl (by decide) ?_
      refine ev_iinc dMo_all_106 rfl (ev_inc1 _) (by decide) ?_
      refine ev_goto (tgt := 87) dMo_all_109 (by decide) ?_
      exact hq
  refine ev_lconst (v := lN 0) dMo_all_0 (by decide) ?_
  refine ev_lstore_n dMo_all_1 rfl (by decide) ?_
  refine ev_iload_n dMo_all_2 rfl rfl ?_
  by_cases s3_0 : x = nI 0
  · rw [s3_0]
    refine ev_tin (off := 45) (tgt := 48) dMo_all_3 (by decide) (by decide) (by decide) (by decide) ?_
    refine ev_iconst (v := nI 0) dMo_all_48 (by decide) ?_
    refine ev_istore dMo_all_49 (by decide) ?_
    rw [all_s, if_pos s3_0] at hk
    exact loop1 hk _ ts.length 0 (by omega)
  by_cases s3_1 : x = nI 1
  · rw [s3_1]
    refine ev_tin (off := 75) (tgt := 78) dMo_all_3 (by decide) (by decide) (by decide) (by decide) ?_
    refine ev_aload_n dMo_all_78 rfl rfl ?_
    refine ev_iload_n dMo_all_79 rfl rfl ?_
    refine cz_Mo_allIn dMo_all_80 lMo_209 hM.2.1.1 (Nat.le_of_ble_eq_true rfl) (Mo_allIn_ok (w := 1) (by decide) hM hT ?_)
    refine ev_lret dMo_all_83 rfl ?_
    rw [all_s, if_neg s3_0, if_pos s3_1] at hk
    exact hk
  by_cases s3_2 : x = nI 2
  · rw [s3_2]
    refine ev_tin (off := 75) (tgt := 78) dMo_all_3 (by decide) (by decide) (by decide) (by decide) ?_
    refine ev_aload_n dMo_all_78 rfl rfl ?_
    refine ev_iload_n dMo_all_79 rfl rfl ?_
    refine cz_Mo_allIn dMo_all_80 lMo_209 hM.2.1.1 (Nat.le_of_ble_eq_true rfl) (Mo_allIn_ok (w := 2) (by decide) hM hT ?_)
    refine ev_lret dMo_all_83 rfl ?_
    rw [all_s, if_neg s3_0, if_neg s3_1, if_pos s3_2] at hk
    exact hk
  by_cases s3_3 : x = nI 3
  · rw [s3_3]
    refine ev_tin (off := 75) (tgt := 78) dMo_all_3 (by decide) (by decide) (by decide) (by decide) ?_
    refine ev_aload_n dMo_all_78 rfl rfl ?_
    refine ev_iload_n dMo_all_79 rfl rfl ?_
    refine cz_Mo_allIn dMo_all_80 lMo_209 hM.2.1.1 (Nat.le_of_ble_eq_true rfl) (Mo_allIn_ok (w := 3) (by decide) hM hT ?_)
    refine ev_lret dMo_all_83 rfl ?_
    rw [all_s, if_neg s3_0, if_neg s3_1, if_neg s3_2, if_pos s3_3] at hk
    exact hk
  by_cases s3_4 : x = nI 4
  · rw [s3_4]
    refine ev_tin (off := 81) (tgt := 84) dMo_all_3 (by decide) (by decide) (by decide) (by decide) ?_
    refine ev_iconst (v := nI 0) dMo_all_84 (by decide) ?_
    refine ev_istore dMo_all_85 (by decide) ?_
    rw [all_s, if_neg s3_0, if_neg s3_1, if_neg s3_2, if_neg s3_3, if_pos s3_4] at hk
    exact loop2 hk _ ts.length 0 (by omega)
  by_cases s3_5 : x = nI 5
  · rw [s3_5]
    refine ev_tin (off := 111) (tgt := 114) dMo_all_3 (by decide) (by decide) (by decide) (by decide) ?_
    refine ev_aload_n dMo_all_114 rfl rfl ?_
    refine ev_get dMo_all_115 fMo_90 hM.2.1.1 rfl ?_
    refine ev_i2l dMo_all_118 ?_
    refine ev_topl (y := lN ts.length) (by rw [e0]; exact nI_l (by omega)) ?_
    refine ev_lret dMo_all_119 rfl ?_
    rw [all_s, if_neg s3_0, if_neg s3_1, if_neg s3_2, if_neg s3_3, if_neg s3_4, if_pos s3_5] at hk
    exact hk
  by_cases s3_6 : x = nI 6
  · rw [s3_6]
    refine ev_tin (off := 117) (tgt := 120) dMo_all_3 (by decide) (by decide) (by decide) (by decide) ?_
    refine ev_aload_n dMo_all_120 rfl rfl ?_
    refine ev_get dMo_all_121 fMo_175 hM.2.1.1 rfl ?_
    refine ev_i2l dMo_all_124 ?_
    refine ev_topl (y := lN us.length) (by rw [u1]; exact nI_l (by omega)) ?_
    refine ev_lret dMo_all_125 rfl ?_
    rw [all_s, if_neg s3_0, if_neg s3_1, if_neg s3_2, if_neg s3_3, if_neg s3_4, if_neg s3_5, if_pos s3_6] at hk
    exact hk
  by_cases s3_7 : x = nI 7
  · rw [s3_7]
    refine ev_tin (off := 123) (tgt := 126) dMo_all_3 (by decide) (by decide) (by decide) (by decide) ?_
    refine ev_aload_n dMo_all_126 rfl rfl ?_
    refine ev_get dMo_all_127 fMo_178 hM.2.1.1 rfl ?_
    refine ev_i2l dMo_all_130 ?_
    refine ev_topl (y := lN cs.length) (by rw [g1]; exact nI_l (by omega)) ?_
    refine ev_lret dMo_all_131 rfl ?_
    rw [all_s, if_neg s3_0, if_neg s3_1, if_neg s3_2, if_neg s3_3, if_neg s3_4, if_neg s3_5, if_neg s3_6, if_pos s3_7] at hk
    exact hk
  refine ev_tout (tgt := 132) dMo_all_3 (by have := lv_neT (k := nI 0) (a := 0) s3_0 (by decide); have := lv_neT (k := nI 1) (a := 1) s3_1 (by decide); have := lv_neT (k := nI 2) (a := 2) s3_2 (by decide); have := lv_neT (k := nI 3) (a := 3) s3_3 (by decide); have := lv_neT (k := nI 4) (a := 4) s3_4 (by decide); have := lv_neT (k := nI 5) (a := 5) s3_5 (by decide); have := lv_neT (k := nI 6) (a := 6) s3_6 (by decide); have := lv_neT (k := nI 7) (a := 7) s3_7 (by decide); omega) (by decide) ?_
  refine ev_ldc2 (v := -1) dMo_all_132 qMo_138 ?_
  refine ev_lret dMo_all_135 rfl ?_
  rw [all_s, if_neg s3_0, if_neg s3_1, if_neg s3_2, if_neg s3_3, if_neg s3_4, if_neg s3_5, if_neg s3_6, if_neg s3_7] at hk
  exact hk
end MOA
