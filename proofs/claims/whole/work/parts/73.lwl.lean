/-! the law: its loop -/
section LWL
variable {G : xG} {l : Launch} {d bc bs i : Nat} {h : xH} {n : Nat} {P : Option Value → xH → Nat → Prop} {ad tg : Nat → Nat} {ts : List sT} {ys : List Int32} {us : List sU} {cs : List Int32} {as : List sA}
set_option maxRecDepth 20000 in
set_option maxHeartbeats 2000000 in
theorem lw_loop (hN2 : xN G ≤ 2560) (hk : ∀ h' n', P (some (.int (nI 1))) h' n') : ∀ e i bc bs h n ad tg ts ys us cs as, xN G < i + 5 * e + 5 → i ≤ xN G → 4 * e ≤ bc → 171 * e ≤ bs → St h n ad tg ts ys us cs as → ev_Run G l (d + 7) bc bs mLw_law 18 [some (.ref (xb G)), some (.ref (ad 0)), some (.ref (ad 1000)), some (.int (nI i))] [] h n P := by
  have hN : xN G < 2 ^ 31 := by omega
  have le5 : ∀ i, i ≤ xN G → (i + 5 ≤ xN G ↔ ¬ nI (xN G) - nI 5 < nI i) := by
    intro i hi
    rw [Int32.lt_iff_toInt_lt, pk_sub_toInt (by omega) (by omega), nI_toInt (by omega)]
    omega
  intro e
  induction e with
  | zero =>
    intro i bc bs h n ad tg ts ys us cs as he hi hc hs hS
    refine ev_iload_n dLw_law_18 rfl rfl ?_
    refine ev_aload_n dLw_law_19 rfl rfl ?_
    refine ev_slen dLw_law_20 ?_
    refine ev_iconst (v := nI 5) dLw_law_21 (by decide) ?_
    refine ev_isub dLw_law_22 ?_
    refine ev_icmp_gt (tgt := 1174) dLw_law_23 (by decide) (fun c23 => ?_) (fun c23 => ?_)
    · skip
      refine ev_iconst (v := nI 1) dLw_law_1174 (by decide) ?_
      refine ev_iret dLw_law_1175 rfl rfl ?_
      exact hk _ _
    · exact absurd ((le5 i hi).mpr c23) (by omega)
      
  | succ e ih =>
    intro i bc bs h n ad tg ts ys us cs as he hi hc hs hS
    obtain ⟨bc, rfl⟩ : ∃ b, bc = b + 4 := ⟨bc - 4, by omega⟩
    obtain ⟨bs, rfl⟩ : ∃ b, bs = b + 171 := ⟨bs - 171, by omega⟩
    have nx : i + 5 ≤ xN G → ∀ bc' bs' h' n' ad' tg' ts' ys' us' cs' as', bc ≤ bc' → bs ≤ bs' → ad' 0 = ad 0 → ad' 1000 = ad 1000 → St h' n' ad' tg' ts' ys' us' cs' as' → ev_Run G l (d + 7) bc' bs' mLw_law 1168 [some (.ref (xb G)), some (.ref (ad 0)), some (.ref (ad 1000)), some (.int (nI i))] [] h' n' P := by
      intro h5 bc' bs' h' n' ad' tg' ts' ys' us' cs' as' b1 b2 e0 e1 hS'
      rw [← e0, ← e1]
      refine ev_iinc dLw_law_1168 rfl ((by rw [show Int32.ofInt 5 = nI 5 from by decide]; exact nI_add i 5 : nI i + Int32.ofInt 5 = nI (i + 5))) (by decide) ?_
      refine ev_goto (tgt := 18) dLw_law_1171 (by decide) ?_
      exact ih (i + 5) _ _ _ _ _ _ _ _ _ _ _ (by omega) (by omega) (by omega) (by omega) hS'
    refine ev_iload_n dLw_law_18 rfl rfl ?_
    refine ev_aload_n dLw_law_19 rfl rfl ?_
    refine ev_slen dLw_law_20 ?_
    refine ev_iconst (v := nI 5) dLw_law_21 (by decide) ?_
    refine ev_isub dLw_law_22 ?_
    refine ev_icmp_gt (tgt := 1174) dLw_law_23 (by decide) (fun c23 => ?_) (fun c23 => ?_)
    · skip
      refine ev_iconst (v := nI 1) dLw_law_1174 (by decide) ?_
      refine ev_iret dLw_law_1175 rfl rfl ?_
      exact hk _ _
    · have h5 := (le5 i hi).mpr c23
      have nx := nx h5
      refine ev_aload_n dLw_law_26 rfl rfl ?_
      refine ev_iload_n dLw_law_27 rfl rfl ?_
      refine ev_sld dLw_law_28 rfl (by omega) hN ?_
      refine ev_bipush (v := nI 31) dLw_law_29 (by decide) ?_
      refine ev_iand dLw_law_31 ?_
      generalize xX G i &&& nI 31 = w
      by_cases s32_0 : w = nI 0
      · rw [s32_0]
        refine ev_tin (off := 112) (tgt := 144) dLw_law_32 (by decide) (by decide) (by decide) (by decide) ?_
        exact lw_c0 hN h5 hS nx
      by_cases s32_1 : w = nI 1
      · rw [s32_1]
        refine ev_tin (off := 185) (tgt := 217) dLw_law_32 (by decide) (by decide) (by decide) (by decide) ?_
        exact lw_c1 hN h5 hS nx
      by_cases s32_2 : w = nI 2
      · rw [s32_2]
        refine ev_tin (off := 198) (tgt := 230) dLw_law_32 (by decide) (by decide) (by decide) (by decide) ?_
        exact lw_c2 hN h5 hS nx
      by_cases s32_3 : w = nI 3
      · rw [s32_3]
        refine ev_tin (off := 271) (tgt := 303) dLw_law_32 (by decide) (by decide) (by decide) (by decide) ?_
        exact lw_c3 hN h5 hS nx
      by_cases s32_4 : w = nI 4
      · rw [s32_4]
        refine ev_tin (off := 344) (tgt := 376) dLw_law_32 (by decide) (by decide) (by decide) (by decide) ?_
        exact lw_c4 hN h5 hS nx
      by_cases s32_5 : w = nI 5
      · rw [s32_5]
        refine ev_tin (off := 408) (tgt := 440) dLw_law_32 (by decide) (by decide) (by decide) (by decide) ?_
        exact lw_c5 hN h5 hS nx
      by_cases s32_6 : w = nI 6
      · rw [s32_6]
        refine ev_tin (off := 457) (tgt := 489) dLw_law_32 (by decide) (by decide) (by decide) (by decide) ?_
        exact lw_c6 hN h5 hS nx
      by_cases s32_7 : w = nI 7
      · rw [s32_7]
        refine ev_tin (off := 520) (tgt := 552) dLw_law_32 (by decide) (by decide) (by decide) (by decide) ?_
        exact lw_c7 hN h5 hS nx
      by_cases s32_8 : w = nI 8
      · rw [s32_8]
        refine ev_tin (off := 554) (tgt := 586) dLw_law_32 (by decide) (by decide) (by decide) (by decide) ?_
        exact lw_c8 hN h5 hS nx
      by_cases s32_9 : w = nI 9
      · rw [s32_9]
        refine ev_tin (off := 598) (tgt := 630) dLw_law_32 (by decide) (by decide) (by decide) (by decide) ?_
        exact lw_c9 hN h5 hS nx
      by_cases s32_10 : w = nI 10
      · rw [s32_10]
        refine ev_tin (off := 642) (tgt := 674) dLw_law_32 (by decide) (by decide) (by decide) (by decide) ?_
        exact lw_c10 hN h5 hS nx
      by_cases s32_11 : w = nI 11
      · rw [s32_11]
        refine ev_tin (off := 675) (tgt := 707) dLw_law_32 (by decide) (by decide) (by decide) (by decide) ?_
        exact lw_c11 hN h5 hS nx
      by_cases s32_12 : w = nI 12
      · rw [s32_12]
        refine ev_tin (off := 698) (tgt := 730) dLw_law_32 (by decide) (by decide) (by decide) (by decide) ?_
        exact lw_c12 hN h5 hS nx
      by_cases s32_13 : w = nI 13
      · rw [s32_13]
        refine ev_tin (off := 731) (tgt := 763) dLw_law_32 (by decide) (by decide) (by decide) (by decide) ?_
        exact lw_c13 hN h5 hS nx
      by_cases s32_14 : w = nI 14
      · rw [s32_14]
        refine ev_tin (off := 754) (tgt := 786) dLw_law_32 (by decide) (by decide) (by decide) (by decide) ?_
        exact lw_c14 hN h5 hS nx
      by_cases s32_15 : w = nI 15
      · rw [s32_15]
        refine ev_tin (off := 777) (tgt := 809) dLw_law_32 (by decide) (by decide) (by decide) (by decide) ?_
        exact lw_c15 hN h5 hS nx
      by_cases s32_16 : w = nI 16
      · rw [s32_16]
        refine ev_tin (off := 790) (tgt := 822) dLw_law_32 (by decide) (by decide) (by decide) (by decide) ?_
        exact lw_c16 hN h5 hS nx
      by_cases s32_17 : w = nI 17
      · rw [s32_17]
        refine ev_tin (off := 833) (tgt := 865) dLw_law_32 (by decide) (by decide) (by decide) (by decide) ?_
        exact lw_c17 hN h5 hS nx
      by_cases s32_18 : w = nI 18
      · rw [s32_18]
        refine ev_tin (off := 856) (tgt := 888) dLw_law_32 (by decide) (by decide) (by decide) (by decide) ?_
        exact lw_c18 hN h5 hS nx
      by_cases s32_19 : w = nI 19
      · rw [s32_19]
        refine ev_tin (off := 929) (tgt := 961) dLw_law_32 (by decide) (by decide) (by decide) (by decide) ?_
        exact lw_c19 hN h5 hS nx
      by_cases s32_20 : w = nI 20
      · rw [s32_20]
        refine ev_tin (off := 1002) (tgt := 1034) dLw_law_32 (by decide) (by decide) (by decide) (by decide) ?_
        exact lw_c20 hN h5 hS nx
      by_cases s32_21 : w = nI 21
      · rw [s32_21]
        refine ev_tin (off := 1036) (tgt := 1068) dLw_law_32 (by decide) (by decide) (by decide) (by decide) ?_
        exact lw_c21 hN h5 hS nx
      by_cases s32_22 : w = nI 22
      · rw [s32_22]
        refine ev_tin (off := 1069) (tgt := 1101) dLw_law_32 (by decide) (by decide) (by decide) (by decide) ?_
        exact lw_c22 hN h5 hS nx
      by_cases s32_23 : w = nI 23
      · rw [s32_23]
        refine ev_tin (off := 1112) (tgt := 1144) dLw_law_32 (by decide) (by decide) (by decide) (by decide) ?_
        exact lw_c23 hN h5 hS nx
      refine ev_tout (tgt := 1168) dLw_law_32 (by have := lv_neT (k := nI 0) (a := 0) s32_0 (by decide); have := lv_neT (k := nI 1) (a := 1) s32_1 (by decide); have := lv_neT (k := nI 2) (a := 2) s32_2 (by decide); have := lv_neT (k := nI 3) (a := 3) s32_3 (by decide); have := lv_neT (k := nI 4) (a := 4) s32_4 (by decide); have := lv_neT (k := nI 5) (a := 5) s32_5 (by decide); have := lv_neT (k := nI 6) (a := 6) s32_6 (by decide); have := lv_neT (k := nI 7) (a := 7) s32_7 (by decide); have := lv_neT (k := nI 8) (a := 8) s32_8 (by decide); have := lv_neT (k := nI 9) (a := 9) s32_9 (by decide); have := lv_neT (k := nI 10) (a := 10) s32_10 (by decide); have := lv_neT (k := nI 11) (a := 11) s32_11 (by decide); have := lv_neT (k := nI 12) (a := 12) s32_12 (by decide); have := lv_neT (k := nI 13) (a := 13) s32_13 (by decide); have := lv_neT (k := nI 14) (a := 14) s32_14 (by decide); have := lv_neT (k := nI 15) (a := 15) s32_15 (by decide); have := lv_neT (k := nI 16) (a := 16) s32_16 (by decide); have := lv_neT (k := nI 17) (a := 17) s32_17 (by decide); have := lv_neT (k := nI 18) (a := 18) s32_18 (by decide); have := lv_neT (k := nI 19) (a := 19) s32_19 (by decide); have := lv_neT (k := nI 20) (a := 20) s32_20 (by decide); have := lv_neT (k := nI 21) (a := 21) s32_21 (by decide); have := lv_neT (k := nI 22) (a := 22) s32_22 (by decide); have := lv_neT (k := nI 23) (a := 23) s32_23 (by decide); omega) (by decide) ?_
      exact nx _ _ h n ad tg ts ys us cs as (by omega) (by omega) rfl rfl hS
end LWL
