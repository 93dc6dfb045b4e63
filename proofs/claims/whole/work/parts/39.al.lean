/-! all -/
abbrev sumk (ts : List sT) (w : Nat) : Nat := (ts.map (fun t => if t_kind t = w then sl_tot (t_ls t) else 0)).sum
def all_s (ts : List sT) (us : List sU) (cs : List Int32) (x : Int32) : Int64 := if x = nI 0 then lN ((ts.map t_told).sum) else if x = nI 1 then lN (sumk ts 1) else if x = nI 2 then lN (sumk ts 2) else if x = nI 3 then lN (sumk ts 3) else if x = nI 4 then lN ((ts.map t_lost).sum) else if x = nI 5 then lN ts.length else if x = nI 6 then lN us.length else if x = nI 7 then lN cs.length else -1
section AL
variable {G : xG} {l : Launch} {d bc bs : Nat} {h : xH} {n n0 : Nat} {P : Option Value → xH → Nat → Prop} {ad tg : Nat → Nat} {lr lq : Nat} {ys : List Int32} {us : List sU} {ts : List sT} {cs : List Int32} {as : List sA}
set_option maxRecDepth 20000 in
set_option maxHeartbeats 1000000 in
theorem BL_all_ok {x : Int32} (hX : XT h n0 ad tg lr lq ts) (hR : Ru h ad lr us) (hL : Le h ad cs as) (hk : P (some (.long (all_s ts us cs x))) h n) : ev_Run G l (d + 3) bc bs mBL_all 0 [some (.ref (ad 0)), some (.int x)] [] h n P := by
  have h0 := hX.2.1
  have hl := hX.2.2.2.1
  have hlu := hR.len
  have hcl : cs.length ≤ 10 := hL.choose_spec.choose_spec.choose_spec.choose_spec.2.2.2.2.2.1
  refine ev_iload_n dBL_all_0 rfl rfl ?_
  by_cases s1_0 : x = nI 0
  · rw [s1_0]
    refine ev_tin (off := 47) (tgt := 48) dBL_all_1 (by decide) (by decide) (by decide) (by decide) ?_
    refine ev_aload_n dBL_all_48 rfl rfl ?_
    refine ev_bipush (v := nI 7) dBL_all_49 (by decide) ?_
    refine cz_BL_sumOfFact dBL_all_51 lBL_236 h0 (Nat.le_of_ble_eq_true rfl) (BL_sumOfFact_ok (f := t_told) hX (fun t => rfl) ?_)
    refine ev_lret dBL_all_54 rfl ?_
    rw [all_s, if_pos s1_0] at hk
    exact hk
  by_cases s1_1 : x = nI 1
  · rw [s1_1]
    refine ev_tin (off := 54) (tgt := 55) dBL_all_1 (by decide) (by decide) (by decide) (by decide) ?_
    refine ev_aload_n dBL_all_55 rfl rfl ?_
    refine ev_iconst (v := nI 1) dBL_all_56 (by decide) ?_
    refine cz_BL_sumInside dBL_all_57 lBL_239 h0 (Nat.le_of_ble_eq_true rfl) (BL_sumInside_ok (w := 1) hX (by decide) ?_)
    refine ev_lret dBL_all_60 rfl ?_
    rw [all_s, if_neg s1_0, if_pos s1_1] at hk
    exact hk
  by_cases s1_2 : x = nI 2
  · rw [s1_2]
    refine ev_tin (off := 60) (tgt := 61) dBL_all_1 (by decide) (by decide) (by decide) (by decide) ?_
    refine ev_aload_n dBL_all_61 rfl rfl ?_
    refine ev_iconst (v := nI 2) dBL_all_62 (by decide) ?_
    refine cz_BL_sumInside dBL_all_63 lBL_239 h0 (Nat.le_of_ble_eq_true rfl) (BL_sumInside_ok (w := 2) hX (by decide) ?_)
    refine ev_lret dBL_all_66 rfl ?_
    rw [all_s, if_neg s1_0, if_neg s1_1, if_pos s1_2] at hk
    exact hk
  by_cases s1_3 : x = nI 3
  · rw [s1_3]
    refine ev_tin (off := 66) (tgt := 67) dBL_all_1 (by decide) (by decide) (by decide) (by decide) ?_
    refine ev_aload_n dBL_all_67 rfl rfl ?_
    refine ev_iconst (v := nI 3) dBL_all_68 (by decide) ?_
    refine cz_BL_sumInside dBL_all_69 lBL_239 h0 (Nat.le_of_ble_eq_true rfl) (BL_sumInside_ok (w := 3) hX (by decide) ?_)
    refine ev_lret dBL_all_72 rfl ?_
    rw [all_s, if_neg s1_0, if_neg s1_1, if_neg s1_2, if_pos s1_3] at hk
    exact hk
  by_cases s1_4 : x = nI 4
  · rw [s1_4]
    refine ev_tin (off := 72) (tgt := 73) dBL_all_1 (by decide) (by decide) (by decide) (by decide) ?_
    refine ev_aload_n dBL_all_73 rfl rfl ?_
    refine ev_iconst (v := nI 3) dBL_all_74 (by decide) ?_
    refine cz_BL_sumOfFact dBL_all_75 lBL_236 h0 (Nat.le_of_ble_eq_true rfl) (BL_sumOfFact_ok (f := t_lost) hX (fun t => rfl) ?_)
    refine ev_lret dBL_all_78 rfl ?_
    rw [all_s, if_neg s1_0, if_neg s1_1, if_neg s1_2, if_neg s1_3, if_pos s1_4] at hk
    exact hk
  by_cases s1_5 : x = nI 5
  · rw [s1_5]
    refine ev_tin (off := 78) (tgt := 79) dBL_all_1 (by decide) (by decide) (by decide) (by decide) ?_
    refine ev_aload_n dBL_all_79 rfl rfl ?_
    refine ev_get dBL_all_80 fBL_15 h0 rfl ?_
    refine ev_i2l dBL_all_83 ?_
    refine ev_topl (nI_l (by omega)) ?_
    refine ev_lret dBL_all_84 rfl ?_
    rw [all_s, if_neg s1_0, if_neg s1_1, if_neg s1_2, if_neg s1_3, if_neg s1_4, if_pos s1_5] at hk
    exact hk
  by_cases s1_6 : x = nI 6
  · rw [s1_6]
    refine ev_tin (off := 84) (tgt := 85) dBL_all_1 (by decide) (by decide) (by decide) (by decide) ?_
    refine ev_aload_n dBL_all_85 rfl rfl ?_
    refine ev_get dBL_all_86 fBL_39 h0 rfl ?_
    refine cz_Ru_size dBL_all_89 lBL_185 hR.obj (Nat.le_of_ble_eq_true rfl) (Ru_size_ok hR ?_)
    refine ev_i2l dBL_all_92 ?_
    refine ev_topl (nI_l (by omega)) ?_
    refine ev_lret dBL_all_93 rfl ?_
    rw [all_s, if_neg s1_0, if_neg s1_1, if_neg s1_2, if_neg s1_3, if_neg s1_4, if_neg s1_5, if_pos s1_6] at hk
    exact hk
  by_cases s1_7 : x = nI 7
  · rw [s1_7]
    refine ev_tin (off := 93) (tgt := 94) dBL_all_1 (by decide) (by decide) (by decide) (by decide) ?_
    refine ev_aload_n dBL_all_94 rfl rfl ?_
    refine ev_get dBL_all_95 fBL_49 h0 rfl ?_
    refine cz_Le_size dBL_all_98 lBL_242 hL.obj (Nat.le_of_ble_eq_true rfl) (Le_size_ok hL ?_)
    refine ev_i2l dBL_all_101 ?_
    refine ev_topl (nI_l (by omega)) ?_
    refine ev_lret dBL_all_102 rfl ?_
    rw [all_s, if_neg s1_0, if_neg s1_1, if_neg s1_2, if_neg s1_3, if_neg s1_4, if_neg s1_5, if_neg s1_6, if_pos s1_7] at hk
    exact hk
  refine ev_tout (tgt := 103) dBL_all_1 (by have := lv_neT (k := nI 0) (a := 0) s1_0 (by decide); have := lv_neT (k := nI 1) (a := 1) s1_1 (by decide); have := lv_neT (k := nI 2) (a := 2) s1_2 (by decide); have := lv_neT (k := nI 3) (a := 3) s1_3 (by decide); have := lv_neT (k := nI 4) (a := 4) s1_4 (by decide); have := lv_neT (k := nI 5) (a := 5) s1_5 (by decide); have := lv_neT (k := nI 6) (a := 6) s1_6 (by decide); have := lv_neT (k := nI 7) (a := 7) s1_7 (by decide); omega) (by decide) ?_
  refine ev_ldc2 (v := -1) dBL_all_103 qBL_122 ?_
  refine ev_lret dBL_all_106 rfl ?_
  rw [all_s, if_neg s1_0, if_neg s1_1, if_neg s1_2, if_neg s1_3, if_neg s1_4, if_neg s1_5, if_neg s1_6, if_neg s1_7] at hk
  exact hk
end AL
