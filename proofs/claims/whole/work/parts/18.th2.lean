def fact_s (t : sT) (x : Int32) : Int64 := if x = nI 0 then lN (t_kind t) else if x = nI 1 then lN (sl_tot (t_ls t)) else if x = nI 2 then lN (t_ls t).length else if x = nI 3 then lN (t_lost t) else if x = nI 4 then lN (t_held t) else if x = nI 5 then lN (t_warm t) else if x = nI 6 then lN (t_mark t) else if x = nI 7 then lN (t_told t) else if x = nI 8 then lN (t_day t) else -1
/-- no two neighbours are of one haul -/
def sl_ch : Nat → sL → Prop
  | _, [] => True
  | a, p :: t => ¬ p.1 = a ∧ sl_ch p.1 t
def sl_ad : sL → Prop
  | [] => True
  | p :: t => sl_ch p.1 t
/-- a thing's numbers are small -/
def t_ok (t : sT) : Prop := t_kind t ≤ 3 ∧ 1 ≤ t_kind t ∧ t_mark t < 1000 ∧ t_day t < 100000 ∧ t_told t ≤ 1000000000 ∧ t_held t ≤ 1 ∧ t_warm t ≤ 4000 ∧ sl_hb (t_ls t) ∧ sl_gb (t_ls t) ∧ sl_ad (t_ls t) ∧ (t_kind t = 3 → t_mark t < 100)
section TH2
variable {G : xG} {l : Launch} {d bc bs : Nat} {h : xH} {n : Nat} {P : Option Value → xH → Nat → Prop}
set_option maxRecDepth 20000 in
set_option maxHeartbeats 1000000 in
theorem Th_fact_ok {a la ia ga : Nat} {t : sT} {x : Int32} (hT : Th h a la ia ga t) (ht : t_ok t) (hk : P (some (.long (fact_s t x))) h n) : ev_Run G l (d + 1) bc bs mTh_fact 0 [some (.ref a), some (.int x)] [] h n P := by
  obtain ⟨t1, tL⟩ := hT
  obtain ⟨o1, -, o2, o3, o4, o5, o6, -⟩ := ht
  obtain ⟨f, g, h1, h2, h3, hl, -⟩ := id tL
  refine ev_iload_n dTh_fact_0 rfl rfl ?_
  by_cases s1_0 : x = nI 0
  · rw [s1_0]
    refine ev_tin (off := 51) (tgt := 52) dTh_fact_1 (by decide) (by decide) (by decide) (by decide) ?_
    refine ev_aload_n dTh_fact_52 rfl rfl ?_
    refine ev_get dTh_fact_53 fTh_9 t1 rfl ?_
    refine ev_i2l dTh_fact_56 ?_
    refine ev_topl (nI_l (by omega)) ?_
    refine ev_lret dTh_fact_57 rfl ?_
    rw [fact_s, if_pos s1_0] at hk
    exact hk
  by_cases s1_1 : x = nI 1
  · rw [s1_1]
    refine ev_tin (off := 57) (tgt := 58) dTh_fact_1 (by decide) (by decide) (by decide) (by decide) ?_
    refine ev_aload_n dTh_fact_58 rfl rfl ?_
    refine ev_get dTh_fact_59 fTh_24 t1 rfl ?_
    refine cz_La_total dTh_fact_62 lTh_45 h1 (Nat.le_of_ble_eq_true rfl) (La_total_ok tL ?_)
    refine ev_lret dTh_fact_65 rfl ?_
    rw [fact_s, if_neg s1_0, if_pos s1_1] at hk
    exact hk
  by_cases s1_2 : x = nI 2
  · rw [s1_2]
    refine ev_tin (off := 65) (tgt := 66) dTh_fact_1 (by decide) (by decide) (by decide) (by decide) ?_
    refine ev_aload_n dTh_fact_66 rfl rfl ?_
    refine ev_get dTh_fact_67 fTh_24 t1 rfl ?_
    refine cz_La_size dTh_fact_70 lTh_49 h1 (Nat.le_of_ble_eq_true rfl) (La_size_ok tL ?_)
    refine ev_i2l dTh_fact_73 ?_
    refine ev_topl (nI_l (by omega)) ?_
    refine ev_lret dTh_fact_74 rfl ?_
    rw [fact_s, if_neg s1_0, if_neg s1_1, if_pos s1_2] at hk
    exact hk
  by_cases s1_3 : x = nI 3
  · rw [s1_3]
    refine ev_tin (off := 74) (tgt := 75) dTh_fact_1 (by decide) (by decide) (by decide) (by decide) ?_
    refine ev_aload_n dTh_fact_75 rfl rfl ?_
    refine ev_get dTh_fact_76 fTh_53 t1 rfl ?_
    refine ev_lret dTh_fact_79 rfl ?_
    rw [fact_s, if_neg s1_0, if_neg s1_1, if_neg s1_2, if_pos s1_3] at hk
    exact hk
  by_cases s1_4 : x = nI 4
  · rw [s1_4]
    refine ev_tin (off := 79) (tgt := 80) dTh_fact_1 (by decide) (by decide) (by decide) (by decide) ?_
    refine ev_aload_n dTh_fact_80 rfl rfl ?_
    refine ev_get dTh_fact_81 fTh_57 t1 rfl ?_
    refine ev_if_eq (tgt := 91) dTh_fact_84 (by decide) (fun c84 => ?_) (fun c84 => ?_)
    · refine ev_lconst (v := lN 0) dTh_fact_91 (by decide) ?_
      refine ev_lret dTh_fact_92 rfl ?_
      rw [fact_s, if_neg s1_0, if_neg s1_1, if_neg s1_2, if_neg s1_3, if_pos s1_4] at hk
      have e1 : t_held t = 0 := (nI_eq (by omega) (by omega)).mp c84
      rw [e1] at hk
      exact hk
    · refine ev_lconst (v := lN 1) dTh_fact_87 (by decide) ?_
      refine ev_goto (tgt := 92) dTh_fact_88 (by decide) ?_
      refine ev_lret dTh_fact_92 rfl ?_
      rw [fact_s, if_neg s1_0, if_neg s1_1, if_neg s1_2, if_neg s1_3, if_pos s1_4] at hk
      have e1 : t_held t = 1 := (by have : ¬ t_held t = 0 := fun z => c84 (by rw [z]; rfl); omega)
      rw [e1] at hk
      exact hk
  by_cases s1_5 : x = nI 5
  · rw [s1_5]
    refine ev_tin (off := 92) (tgt := 93) dTh_fact_1 (by decide) (by decide) (by decide) (by decide) ?_
    refine ev_aload_n dTh_fact_93 rfl rfl ?_
    refine ev_get dTh_fact_94 fTh_36 t1 rfl ?_
    refine ev_i2l dTh_fact_97 ?_
    refine ev_topl (nI_l (by omega)) ?_
    refine ev_lret dTh_fact_98 rfl ?_
    rw [fact_s, if_neg s1_0, if_neg s1_1, if_neg s1_2, if_neg s1_3, if_neg s1_4, if_pos s1_5] at hk
    exact hk
  by_cases s1_6 : x = nI 6
  · rw [s1_6]
    refine ev_tin (off := 98) (tgt := 99) dTh_fact_1 (by decide) (by decide) (by decide) (by decide) ?_
    refine ev_aload_n dTh_fact_99 rfl rfl ?_
    refine ev_get dTh_fact_100 fTh_15 t1 rfl ?_
    refine ev_i2l dTh_fact_103 ?_
    refine ev_topl (nI_l (by omega)) ?_
    refine ev_lret dTh_fact_104 rfl ?_
    rw [fact_s, if_neg s1_0, if_neg s1_1, if_neg s1_2, if_neg s1_3, if_neg s1_4, if_neg s1_5, if_pos s1_6] at hk
    exact hk
  by_cases s1_7 : x = nI 7
  · rw [s1_7]
    refine ev_tin (off := 104) (tgt := 105) dTh_fact_1 (by decide) (by decide) (by decide) (by decide) ?_
    refine ev_aload_n dTh_fact_105 rfl rfl ?_
    refine ev_get dTh_fact_106 fTh_61 t1 rfl ?_
    refine ev_lret dTh_fact_109 rfl ?_
    rw [fact_s, if_neg s1_0, if_neg s1_1, if_neg s1_2, if_neg s1_3, if_neg s1_4, if_neg s1_5, if_neg s1_6, if_pos s1_7] at hk
    exact hk
  by_cases s1_8 : x = nI 8
  · rw [s1_8]
    refine ev_tin (off := 109) (tgt := 110) dTh_fact_1 (by decide) (by decide) (by decide) (by decide) ?_
    refine ev_aload_n dTh_fact_110 rfl rfl ?_
    refine ev_get dTh_fact_111 fTh_18 t1 rfl ?_
    refine ev_i2l dTh_fact_114 ?_
    refine ev_topl (nI_l (by omega)) ?_
    refine ev_lret dTh_fact_115 rfl ?_
    rw [fact_s, if_neg s1_0, if_neg s1_1, if_neg s1_2, if_neg s1_3, if_neg s1_4, if_neg s1_5, if_neg s1_6, if_neg s1_7, if_pos s1_8] at hk
    exact hk
  refine ev_tout (tgt := 116) dTh_fact_1 (by have := lv_neT (k := nI 0) (a := 0) s1_0 (by decide); have := lv_neT (k := nI 1) (a := 1) s1_1 (by decide); have := lv_neT (k := nI 2) (a := 2) s1_2 (by decide); have := lv_neT (k := nI 3) (a := 3) s1_3 (by decide); have := lv_neT (k := nI 4) (a := 4) s1_4 (by decide); have := lv_neT (k := nI 5) (a := 5) s1_5 (by decide); have := lv_neT (k := nI 6) (a := 6) s1_6 (by decide); have := lv_neT (k := nI 7) (a := 7) s1_7 (by decide); have := lv_neT (k := nI 8) (a := 8) s1_8 (by decide); omega) (by decide) ?_
  refine ev_ldc2 (v := -1) dTh_fact_116 qTh_64 ?_
  refine ev_lret dTh_fact_119 rfl ?_
  rw [fact_s, if_neg s1_0, if_neg s1_1, if_neg s1_2, if_neg s1_3, if_neg s1_4, if_neg s1_5, if_neg s1_6, if_neg s1_7, if_neg s1_8] at hk
  exact hk
end TH2
