/-! the reference: what it reads of one thing -/
theorem lI_le_nlt {a b : Int64} (h : a ≤ b) : ¬ b < a := by
  rw [Int64.le_iff_toInt_le] at h; rw [Int64.lt_iff_toInt_lt]; omega
theorem lI_nlt {a b : Int64} (h : ¬ a < b) : b ≤ a := by
  rw [Int64.lt_iff_toInt_lt] at h; rw [Int64.le_iff_toInt_le]; omega
section MO1
variable {G : xG} {l : Launch} {d bc bs : Nat} {h h0 : xH} {n : Nat} {P : Option Value → xH → Nat → Prop} {ad tg : Nat → Nat} {T : Nat} {iv : Nat → Int32} {ia : Nat → Nat → Int32} {la : Nat → Nat → Int64} {ts : List sT}
set_option maxRecDepth 20000 in
theorem Mo_isSource_ok {x : Int32} (hM : MoK h0 h ad tg T iv ia la) (hT : MoT iv ia la ts) (ht : ∀ i t, fnd ts x = some (i, t) → ¬ t_kind t = 3 → P (some (.int (nI 1))) h n) (hf : (∀ i t, fnd ts x = some (i, t) → t_kind t = 3) → P (some (.int (nI 0))) h n) : ev_Run G l (d + 1) bc bs mMo_isSource 0 [some (.ref (ad 1000)), some (.int x)] [] h n P := by
  have h70 := hT.2.1
  refine ev_aload_n dMo_isSource_0 rfl rfl ?_
  refine ev_iload_n dMo_isSource_1 rfl rfl ?_
  refine cz_Mo_isThing dMo_isSource_2 lMo_94 hM.2.1.1 (Nat.le_of_ble_eq_true rfl) (Mo_isThing_ok hM hT (fun i t q => ?_) (fun q => ?_))
  · obtain ⟨e1, e2, e3⟩ := fnd_some q
    have hi : i < ts.length := (List.getElem?_eq_some_iff.mp e2).1
    obtain ⟨⟨k1, k2⟩, k3, k4⟩ := hT.2.2.1 i t e2
    have k5 := k4.1
    refine ev_if_eq (tgt := 22) dMo_isSource_5 (by decide) (fun q9 => absurd q9 (by decide)) (fun _ => ?_)
    refine ev_aload_n dMo_isSource_8 rfl rfl ?_
    refine ev_get dMo_isSource_9 fMo_7 hM.2.1.1 rfl ?_
    refine ev_iload_n dMo_isSource_12 rfl rfl ?_
    refine ev_iald dMo_isSource_13 hM.2.1.g1 rfl (e1) (by omega) (by decide) ?_
    refine ev_top (k1) ?_
    refine ev_iconst (v := nI 3) dMo_isSource_14 (by decide) ?_
    refine ev_icmp_eq (tgt := 22) dMo_isSource_15 (by decide) (fun c15 => ?_) (fun c15 => ?_)
    · refine ev_iconst (v := nI 0) dMo_isSource_22 (by decide) ?_
      refine ev_iret dMo_isSource_23 rfl rfl ?_
      exact hf (fun i' t' z => by rw [q] at z; cases z; exact (nI_eq (by omega) (by decide)).mp c15)
    · refine ev_iconst (v := nI 1) dMo_isSource_18 (by decide) ?_
      refine ev_goto (tgt := 23) dMo_isSource_19 (by decide) ?_
      refine ev_iret dMo_isSource_23 rfl rfl ?_
      exact ht i t q (fun z => c15 (by rw [z]))
  · refine ev_if_eq (tgt := 22) dMo_isSource_5 (by decide) (fun _ => ?_) (fun q9 => absurd (by decide) q9)
    refine ev_iconst (v := nI 0) dMo_isSource_22 (by decide) ?_
    refine ev_iret dMo_isSource_23 rfl rfl ?_
    exact hf (fun i t z => by rw [q] at z; cases z)
set_option maxRecDepth 20000 in
theorem Mo_gramsIn_ok {i : Nat} {t : sT} (hM : MoK h0 h ad tg T iv ia la) (hT : MoT iv ia la ts) (hi : ts[i]? = some t) (hk : P (some (.long (lN (sl_tot (t_ls t))))) h n) : ev_Run G l d bc bs mMo_gramsIn 0 [some (.ref (ad 1000)), some (.int (nI i)), none, none, none] [] h n P := by
  have h70 := hT.2.1
  have hil : i < ts.length := (List.getElem?_eq_some_iff.mp hi).1
  obtain ⟨⟨k1, k2, k3, -⟩, k8, -⟩ := hT.2.2.1 i t hi
  have loop : ∀ e j, j + e = (t_ls t).length → ev_Run G l d bc bs mMo_gramsIn 5 [some (.ref (ad 1000)), some (.int (nI i)), some (.long (lN (sl_tot ((t_ls t).take j)))), none, some (.int (nI j))] [] h n P := by
    intro e
    induction e with
    | zero =>
      intro j hj
      refine ev_iload dMo_gramsIn_5 rfl ?_
      refine ev_aload_n dMo_gramsIn_7 rfl rfl ?_
      refine ev_get dMo_gramsIn_8 fMo_13 hM.2.1.1 rfl ?_
      refine ev_iload_n dMo_gramsIn_11 rfl rfl ?_
      refine ev_iald dMo_gramsIn_12 hM.2.1.g2 rfl rfl (by omega) (by decide) ?_
      refine ev_top (k2) ?_
      refine ev_icmp_ge (tgt := 37) dMo_gramsIn_13 (by decide) (fun c13 => ?_) (fun c13 => absurd (nI_le (by omega) (by omega)) c13)
      refine ev_lload_n dMo_gramsIn_37 rfl rfl ?_
      refine ev_lret dMo_gramsIn_38 rfl ?_
      rw [List.take_of_length_le (by omega)]
      exact hk
    | succ e ih =>
      intro j hj
      obtain ⟨p, hp⟩ := sl_get (ls := t_ls t) (j := j) (by omega)
      refine ev_iload dMo_gramsIn_5 rfl ?_
      refine ev_aload_n dMo_gramsIn_7 rfl rfl ?_
      refine ev_get dMo_gramsIn_8 fMo_13 hM.2.1.1 rfl ?_
      refine ev_iload_n dMo_gramsIn_11 rfl rfl ?_
      refine ev_iald dMo_gramsIn_12 hM.2.1.g2 rfl rfl (by omega) (by decide) ?_
      refine ev_top (k2) ?_
      refine ev_icmp_ge (tgt := 37) dMo_gramsIn_13 (by decide) (fun c13 => False.elim (absurd c13 (nI_ge (by omega) (by omega)))) (fun c13 => ?_)
      refine ev_lload_n dMo_gramsIn_16 rfl rfl ?_
      refine ev_aload_n dMo_gramsIn_17 rfl rfl ?_
      refine ev_get dMo_gramsIn_18 fMo_19 hM.2.1.1 rfl ?_
      refine ev_bipush (v := nI 81) dMo_gramsIn_21 (by decide) ?_
      refine ev_iload_n dMo_gramsIn_23 rfl rfl ?_
      refine ev_imul dMo_gramsIn_24 ?_
      refine ev_iload dMo_gramsIn_25 rfl ?_
      refine ev_iadd dMo_gramsIn_27 ?_
      refine ev_lald dMo_gramsIn_28 hM.2.1.g4 rfl (mo_ix _ _) (by omega) (by decide) ?_
      refine ev_topl ((k3 j p hp).2) ?_
      refine ev_ladd dMo_gramsIn_29 ?_
      refine ev_topl (y := lN (sl_tot ((t_ls t).take (j + 1)))) (by rw [lN_add, sl_tot_take hp]) ?_
      refine ev_lstore_n dMo_gramsIn_30 rfl (by decide) ?_
      refine ev_iinc dMo_gramsIn_31 rfl (ev_inc1 _) (by decide) ?_
      refine ev_goto (tgt := 5) dMo_gramsIn_34 (by decide) ?_
      exact ih (j + 1) (by omega)
  refine ev_lconst (v := lN 0) dMo_gramsIn_0 (by decide) ?_
  refine ev_lstore_n dMo_gramsIn_1 rfl (by decide) ?_
  refine ev_iconst (v := nI 0) dMo_gramsIn_2 (by decide) ?_
  refine ev_istore dMo_gramsIn_3 (by decide) ?_
  exact loop (t_ls t).length 0 (by omega)
set_option maxRecDepth 20000 in
theorem Mo_gramsFrom_ok {i x : Nat} {t : sT} (hM : MoK h0 h ad tg T iv ia la) (hT : MoT iv ia la ts) (hi : ts[i]? = some t) (hx : x < 2 ^ 31) (hk : P (some (.long (lN (sl_of (t_ls t) x)))) h n) : ev_Run G l d bc bs mMo_gramsFrom 0 [some (.ref (ad 1000)), some (.int (nI i)), some (.int (nI x)), none, none, none] [] h n P := by
  have h70 := hT.2.1
  have hil : i < ts.length := (List.getElem?_eq_some_iff.mp hi).1
  obtain ⟨⟨k1, k2, k3, -⟩, k8, o⟩ := hT.2.2.1 i t hi
  have loop : ∀ e j, j + e = (t_ls t).length → ev_Run G l d bc bs mMo_gramsFrom 5 [some (.ref (ad 1000)), some (.int (nI i)), some (.int (nI x)), some (.long (lN (sl_of ((t_ls t).take j) x))), none, some (.int (nI j))] [] h n P := by
    intro e
    induction e with
    | zero =>
      intro j hj
      refine ev_iload dMo_gramsFrom_5 rfl ?_
      refine ev_aload_n dMo_gramsFrom_7 rfl rfl ?_
      refine ev_get dMo_gramsFrom_8 fMo_13 hM.2.1.1 rfl ?_
      refine ev_iload_n dMo_gramsFrom_11 rfl rfl ?_
      refine ev_iald dMo_gramsFrom_12 hM.2.1.g2 rfl rfl (by omega) (by decide) ?_
      refine ev_top (k2) ?_
      refine ev_icmp_ge (tgt := 57) dMo_gramsFrom_13 (by decide) (fun c13 => ?_) (fun c13 => absurd (nI_le (by omega) (by omega)) c13)
      refine ev_lload_n dMo_gramsFrom_57 rfl rfl ?_
      refine ev_lret dMo_gramsFrom_58 rfl ?_
      rw [List.take_of_length_le (by omega)]
      exact hk
    | succ e ih =>
      intro j hj
      obtain ⟨p, hp⟩ := sl_get (ls := t_ls t) (j := j) (by omega)
      have hp1 := o.2.2.2.2.2.2.2.1 p (List.mem_of_getElem? hp)
      have hq := ih (j + 1) (by omega)
      rw [sl_of_take hp] at hq
      refine ev_iload dMo_gramsFrom_5 rfl ?_
      refine ev_aload_n dMo_gramsFrom_7 rfl rfl ?_
      refine ev_get dMo_gramsFrom_8 fMo_13 hM.2.1.1 rfl ?_
      refine ev_iload_n dMo_gramsFrom_11 rfl rfl ?_
      refine ev_iald dMo_gramsFrom_12 hM.2.1.g2 rfl rfl (by omega) (by decide) ?_
      refine ev_top (k2) ?_
      refine ev_icmp_ge (tgt := 57) dMo_gramsFrom_13 (by decide) (fun c13 => False.elim (absurd c13 (nI_ge (by omega) (by omega)))) (fun c13 => ?_)
      refine ev_lload_n dMo_gramsFrom_16 rfl rfl ?_
      refine ev_aload_n dMo_gramsFrom_17 rfl rfl ?_
      refine ev_get dMo_gramsFrom_18 fMo_16 hM.2.1.1 rfl ?_
      refine ev_bipush (v := nI 81) dMo_gramsFrom_21 (by decide) ?_
      refine ev_iload_n dMo_gramsFrom_23 rfl rfl ?_
      refine ev_imul dMo_gramsFrom_24 ?_
      refine ev_iload dMo_gramsFrom_25 rfl ?_
      refine ev_iadd dMo_gramsFrom_27 ?_
      refine ev_iald dMo_gramsFrom_28 hM.2.1.g3 rfl (mo_ix _ _) (by omega) (by decide) ?_
      refine ev_top ((k3 j p hp).1) ?_
      refine ev_iload_n dMo_gramsFrom_29 rfl rfl ?_
      refine ev_icmp_ne (tgt := 48) dMo_gramsFrom_30 (by decide) (fun c30 => ?_) (fun c30 => ?_)
      · rw [if_neg (fun z => c30 (by rw [z]))] at hq
        refine ev_lconst (v := lN 0) dMo_gramsFrom_48 (by decide) ?_
        refine ev_ladd dMo_gramsFrom_49 ?_
        refine ev_topl (lN_add _ _) ?_
        refine ev_lstore_n dMo_gramsFrom_50 rfl (by decide) ?_
        refine ev_iinc dMo_gramsFrom_51 rfl (ev_inc1 _) (by decide) ?_
        refine ev_goto (tgt := 5) dMo_gramsFrom_54 (by decide) ?_
        exact hq
      · rw [if_pos ((nI_eq (by omega) hx).mp c30)] at hq
        refine ev_aload_n dMo_gramsFrom_33 rfl rfl ?_
        refine ev_get dMo_gramsFrom_34 fMo_19 hM.2.1.1 rfl ?_
        refine ev_bipush (v := nI 81) dMo_gramsFrom_37 (by decide) ?_
        refine ev_iload_n dMo_gramsFrom_39 rfl rfl ?_
        refine ev_imul dMo_gramsFrom_40 ?_
        refine ev_iload dMo_gramsFrom_41 rfl ?_
        refine ev_iadd dMo_gramsFrom_43 ?_
        refine ev_lald dMo_gramsFrom_44 hM.2.1.g4 rfl (mo_ix _ _) (by omega) (by decide) ?_
        refine ev_topl ((k3 j p hp).2) ?_
        refine ev_goto (tgt := 49) dMo_gramsFrom_45 (by decide) ?_
        refine ev_ladd dMo_gramsFrom_49 ?_
        refine ev_topl (lN_add _ _) ?_
        refine ev_lstore_n dMo_gramsFrom_50 rfl (by decide) ?_
        refine ev_iinc dMo_gramsFrom_51 rfl (ev_inc1 _) (by decide) ?_
        refine ev_goto (tgt := 5) dMo_gramsFrom_54 (by decide) ?_
        exact hq
  refine ev_lconst (v := lN 0) dMo_gramsFrom_0 (by decide) ?_
  refine ev_lstore_n dMo_gramsFrom_1 rfl (by decide) ?_
  refine ev_iconst (v := nI 0) dMo_gramsFrom_2 (by decide) ?_
  refine ev_istore dMo_gramsFrom_3 (by decide) ?_
  exact loop (t_ls t).length 0 (by omega)
set_option maxRecDepth 20000 in
theorem Mo_has_ok {i : Nat} {t : sT} {g : Int64} (hM : MoK h0 h ad tg T iv ia la) (hT : MoT iv ia la ts) (hi : ts[i]? = some t) (ht : lN 1 ≤ g ∧ g ≤ lN (sl_tot (t_ls t)) → P (some (.int (nI 1))) h n) (hf : ¬ (lN 1 ≤ g ∧ g ≤ lN (sl_tot (t_ls t))) → P (some (.int (nI 0))) h n) : ev_Run G l (d + 1) bc bs mMo_has 0 [some (.ref (ad 1000)), some (.int (nI i)), some (.long g), none] [] h n P := by
  refine ev_lload_n dMo_has_0 rfl rfl ?_
  refine ev_lconst (v := lN 1) dMo_has_1 (by decide) ?_
  refine ev_lcmp_lt (tgt := 20) dMo_has_2 dMo_has_3 (by decide) (fun c2 => ?_) (fun c2 => ?_)
  · refine ev_iconst (v := nI 0) dMo_has_20 (by decide) ?_
    refine ev_iret dMo_has_21 rfl rfl ?_
    exact hf (fun z => lI_le_nlt z.1 c2)
  · refine ev_lload_n dMo_has_6 rfl rfl ?_
    refine ev_aload_n dMo_has_7 rfl rfl ?_
    refine ev_iload_n dMo_has_8 rfl rfl ?_
    refine cz_Mo_gramsIn dMo_has_9 lMo_112 hM.2.1.1 (Nat.le_of_ble_eq_true rfl) (Mo_gramsIn_ok hM hT hi ?_)
    refine ev_lcmp_gt (tgt := 20) dMo_has_12 dMo_has_13 (by decide) (fun c12 => ?_) (fun c12 => ?_)
    · refine ev_iconst (v := nI 0) dMo_has_20 (by decide) ?_
      refine ev_iret dMo_has_21 rfl rfl ?_
      exact hf (fun z => lI_le_nlt z.2 c12)
    · refine ev_iconst (v := nI 1) dMo_has_16 (by decide) ?_
      refine ev_goto (tgt := 21) dMo_has_17 (by decide) ?_
      refine ev_iret dMo_has_21 rfl rfl ?_
      exact ht ⟨lI_nlt c2, lI_nlt c12⟩
set_option maxRecDepth 20000 in
set_option maxHeartbeats 1000000 in
theorem Mo_told_ok {x y : Int32} (hM : MoK h0 h ad tg T iv ia la) (hT : MoT iv ia la ts) (hk : P (some (.long (told_s ts x y))) h n) : ev_Run G l (d + 1) bc bs mMo_told 0 [some (.ref (ad 1000)), some (.int x), some (.int y)] [] h n P := by
  have h70 := hT.2.1
  refine ev_aload_n dMo_told_0 rfl rfl ?_
  refine ev_iload_n dMo_told_1 rfl rfl ?_
  refine cz_Mo_isThing dMo_told_2 lMo_94 hM.2.1.1 (Nat.le_of_ble_eq_true rfl) (Mo_isThing_ok hM hT (fun i t q => ?_) (fun q => ?_))
  · rw [told_s, q] at hk
    simp only [] at hk
    obtain ⟨rfl, e2, e3⟩ := fnd_some q
    have hi : i < ts.length := (List.getElem?_eq_some_iff.mp e2).1
    obtain ⟨⟨k1, k2, k3, k4, k5, k6, k7, k8, k9⟩, k10, o⟩ := hT.2.2.1 i t e2
    obtain ⟨o1, -, o2, o3, o4, o5, o6, -⟩ := o
    refine ev_if_ne (tgt := 12) dMo_told_5 (by decide) (fun _ => ?_) (fun q9 => absurd q9 (by decide))
    refine ev_iload_n dMo_told_12 rfl rfl ?_
    by_cases s13_0 : y = nI 0
    · rw [s13_0]
      refine ev_tin (off := 51) (tgt := 64) dMo_told_13 (by decide) (by decide) (by decide) (by decide) ?_
      refine ev_aload_n dMo_told_64 rfl rfl ?_
      refine ev_get dMo_told_65 fMo_7 hM.2.1.1 rfl ?_
      refine ev_iload_n dMo_told_68 rfl rfl ?_
      refine ev_iald dMo_told_69 hM.2.1.g1 rfl rfl (by omega) (by decide) ?_
      refine ev_top (k1) ?_
      refine ev_i2l dMo_told_70 ?_
      refine ev_topl (nI_l (by omega)) ?_
      refine ev_lret dMo_told_71 rfl ?_
      rw [fact_s, if_pos s13_0] at hk
      exact hk
    by_cases s13_1 : y = nI 1
    · rw [s13_1]
      refine ev_tin (off := 59) (tgt := 72) dMo_told_13 (by decide) (by decide) (by decide) (by decide) ?_
      refine ev_aload_n dMo_told_72 rfl rfl ?_
      refine ev_iload_n dMo_told_73 rfl rfl ?_
      refine cz_Mo_gramsIn dMo_told_74 lMo_112 hM.2.1.1 (Nat.le_of_ble_eq_true rfl) (Mo_gramsIn_ok hM hT e2 ?_)
      refine ev_lret dMo_told_77 rfl ?_
      rw [fact_s, if_neg s13_0, if_pos s13_1] at hk
      exact hk
    by_cases s13_2 : y = nI 2
    · rw [s13_2]
      refine ev_tin (off := 65) (tgt := 78) dMo_told_13 (by decide) (by decide) (by decide) (by decide) ?_
      refine ev_aload_n dMo_told_78 rfl rfl ?_
      refine ev_get dMo_told_79 fMo_13 hM.2.1.1 rfl ?_
      refine ev_iload_n dMo_told_82 rfl rfl ?_
      refine ev_iald dMo_told_83 hM.2.1.g2 rfl rfl (by omega) (by decide) ?_
      refine ev_top (k2) ?_
      refine ev_i2l dMo_told_84 ?_
      refine ev_topl (nI_l (by omega)) ?_
      refine ev_lret dMo_told_85 rfl ?_
      rw [fact_s, if_neg s13_0, if_neg s13_1, if_pos s13_2] at hk
      exact hk
    by_cases s13_3 : y = nI 3
    · rw [s13_3]
      refine ev_tin (off := 73) (tgt := 86) dMo_told_13 (by decide) (by decide) (by decide) (by decide) ?_
      refine ev_aload_n dMo_told_86 rfl rfl ?_
      refine ev_get dMo_told_87 fMo_23 hM.2.1.1 rfl ?_
      refine ev_iload_n dMo_told_90 rfl rfl ?_
      refine ev_lald dMo_told_91 hM.2.1.g5 rfl rfl (by omega) (by decide) ?_
      refine ev_topl (k4) ?_
      refine ev_lret dMo_told_92 rfl ?_
      rw [fact_s, if_neg s13_0, if_neg s13_1, if_neg s13_2, if_pos s13_3] at hk
      exact hk
    by_cases s13_4 : y = nI 4
    · rw [s13_4]
      refine ev_tin (off := 80) (tgt := 93) dMo_told_13 (by decide) (by decide) (by decide) (by decide) ?_
      refine ev_aload_n dMo_told_93 rfl rfl ?_
      refine ev_get dMo_told_94 fMo_26 hM.2.1.1 rfl ?_
      refine ev_iload_n dMo_told_97 rfl rfl ?_
      refine ev_zald dMo_told_98 hM.2.1.g6 rfl rfl (by omega) (by decide) ?_
      refine ev_top (k5) ?_
      refine ev_if_eq (tgt := 106) dMo_told_99 (by decide) (fun c99 => ?_) (fun c99 => ?_)
      · refine ev_lconst (v := lN 0) dMo_told_106 (by decide) ?_
        refine ev_lret dMo_told_107 rfl ?_
        rw [fact_s, if_neg s13_0, if_neg s13_1, if_neg s13_2, if_neg s13_3, if_pos s13_4] at hk
        have e1 : t_held t = 0 := (nI_eq (by omega) (by omega)).mp c99
        rw [e1] at hk
        exact hk
      · refine ev_lconst (v := lN 1) dMo_told_102 (by decide) ?_
        refine ev_goto (tgt := 107) dMo_told_103 (by decide) ?_
        refine ev_lret dMo_told_107 rfl ?_
        rw [fact_s, if_neg s13_0, if_neg s13_1, if_neg s13_2, if_neg s13_3, if_pos s13_4] at hk
        have e1 : t_held t = 1 := (by have : ¬ t_held t = 0 := fun z => c99 (by rw [z]; rfl); omega)
        rw [e1] at hk
        exact hk
    by_cases s13_5 : y = nI 5
    · rw [s13_5]
      refine ev_tin (off := 95) (tgt := 108) dMo_told_13 (by decide) (by decide) (by decide) (by decide) ?_
      refine ev_aload_n dMo_told_108 rfl rfl ?_
      refine ev_get dMo_told_109 fMo_30 hM.2.1.1 rfl ?_
      refine ev_iload_n dMo_told_112 rfl rfl ?_
      refine ev_iald dMo_told_113 hM.2.1.g7 rfl rfl (by omega) (by decide) ?_
      refine ev_top (k6) ?_
      refine ev_i2l dMo_told_114 ?_
      refine ev_topl (nI_l (by omega)) ?_
      refine ev_lret dMo_told_115 rfl ?_
      rw [fact_s, if_neg s13_0, if_neg s13_1, if_neg s13_2, if_neg s13_3, if_neg s13_4, if_pos s13_5] at hk
      exact hk
    by_cases s13_6 : y = nI 6
    · rw [s13_6]
      refine ev_tin (off := 103) (tgt := 116) dMo_told_13 (by decide) (by decide) (by decide) (by decide) ?_
      refine ev_aload_n dMo_told_116 rfl rfl ?_
      refine ev_get dMo_told_117 fMo_33 hM.2.1.1 rfl ?_
      refine ev_iload_n dMo_told_120 rfl rfl ?_
      refine ev_iald dMo_told_121 hM.2.1.g8 rfl rfl (by omega) (by decide) ?_
      refine ev_top (k7) ?_
      refine ev_i2l dMo_told_122 ?_
      refine ev_topl (nI_l (by omega)) ?_
      refine ev_lret dMo_told_123 rfl ?_
      rw [fact_s, if_neg s13_0, if_neg s13_1, if_neg s13_2, if_neg s13_3, if_neg s13_4, if_neg s13_5, if_pos s13_6] at hk
      exact hk
    by_cases s13_7 : y = nI 7
    · rw [s13_7]
      refine ev_tin (off := 111) (tgt := 124) dMo_told_13 (by decide) (by decide) (by decide) (by decide) ?_
      refine ev_aload_n dMo_told_124 rfl rfl ?_
      refine ev_get dMo_told_125 fMo_39 hM.2.1.1 rfl ?_
      refine ev_iload_n dMo_told_128 rfl rfl ?_
      refine ev_lald dMo_told_129 hM.2.1.g10 rfl rfl (by omega) (by decide) ?_
      refine ev_topl (k9) ?_
      refine ev_lret dMo_told_130 rfl ?_
      rw [fact_s, if_neg s13_0, if_neg s13_1, if_neg s13_2, if_neg s13_3, if_neg s13_4, if_neg s13_5, if_neg s13_6, if_pos s13_7] at hk
      exact hk
    by_cases s13_8 : y = nI 8
    · rw [s13_8]
      refine ev_tin (off := 118) (tgt := 131) dMo_told_13 (by decide) (by decide) (by decide) (by decide) ?_
      refine ev_aload_n dMo_told_131 rfl rfl ?_
      refine ev_get dMo_told_132 fMo_36 hM.2.1.1 rfl ?_
      refine ev_iload_n dMo_told_135 rfl rfl ?_
      refine ev_iald dMo_told_136 hM.2.1.g9 rfl rfl (by omega) (by decide) ?_
      refine ev_top (k8) ?_
      refine ev_i2l dMo_told_137 ?_
      refine ev_topl (nI_l (by omega)) ?_
      refine ev_lret dMo_told_138 rfl ?_
      rw [fact_s, if_neg s13_0, if_neg s13_1, if_neg s13_2, if_neg s13_3, if_neg s13_4, if_neg s13_5, if_neg s13_6, if_neg s13_7, if_pos s13_8] at hk
      exact hk
    refine ev_tout (tgt := 139) dMo_told_13 (by have := lv_neT (k := nI 0) (a := 0) s13_0 (by decide); have := lv_neT (k := nI 1) (a := 1) s13_1 (by decide); have := lv_neT (k := nI 2) (a := 2) s13_2 (by decide); have := lv_neT (k := nI 3) (a := 3) s13_3 (by decide); have := lv_neT (k := nI 4) (a := 4) s13_4 (by decide); have := lv_neT (k := nI 5) (a := 5) s13_5 (by decide); have := lv_neT (k := nI 6) (a := 6) s13_6 (by decide); have := lv_neT (k := nI 7) (a := 7) s13_7 (by decide); have := lv_neT (k := nI 8) (a := 8) s13_8 (by decide); omega) (by decide) ?_
    refine ev_ldc2 (v := -1) dMo_told_139 qMo_138 ?_
    refine ev_lret dMo_told_142 rfl ?_
    rw [fact_s, if_neg s13_0, if_neg s13_1, if_neg s13_2, if_neg s13_3, if_neg s13_4, if_neg s13_5, if_neg s13_6, if_neg s13_7, if_neg s13_8] at hk
    exact hk
  · refine ev_if_ne (tgt := 12) dMo_told_5 (by decide) (fun q9 => absurd (by decide) q9) (fun _ => ?_)
    refine ev_ldc2 (v := -1) dMo_told_8 qMo_138 ?_
    refine ev_lret dMo_told_11 rfl ?_
    rw [told_s, q] at hk
    exact hk
set_option maxRecDepth 20000 in
set_option maxHeartbeats 1000000 in
theorem Mo_layer_ok {x k w : Int32} (hM : MoK h0 h ad tg T iv ia la) (hT : MoT iv ia la ts) (hk : P (some (.long (layer_s ts x k w))) h n) : ev_Run G l (d + 1) bc bs mMo_layer 0 [some (.ref (ad 1000)), some (.int x), some (.int k), some (.int w)] [] h n P := by
  have h70 := hT.2.1
  have none_at : ∀ i t, fnd ts x = some (i, t) → lay_at (t_ls t) k = none → P (some (.long (-1))) h n := by
    intro i t q hn
    rw [layer_s, q] at hk
    simp only [hn] at hk
    by_cases w0 : w = nI 0
    · rw [if_pos w0] at hk; exact hk
    · rw [if_neg w0] at hk
      by_cases w1 : w = nI 1
      · rw [if_pos w1] at hk; exact hk
      · rw [if_neg w1] at hk; exact hk
  refine ev_aload_n dMo_layer_0 rfl rfl ?_
  refine ev_iload_n dMo_layer_1 rfl rfl ?_
  refine cz_Mo_isThing dMo_layer_2 lMo_94 hM.2.1.1 (Nat.le_of_ble_eq_true rfl) (Mo_isThing_ok hM hT (fun i t q => ?_) (fun q => ?_))
  · obtain ⟨rfl, e2, e3⟩ := fnd_some q
    have hi : i < ts.length := (List.getElem?_eq_some_iff.mp e2).1
    obtain ⟨⟨k1, k2, k3, -⟩, k10, o⟩ := hT.2.2.1 i t e2
    refine ev_if_eq (tgt := 22) dMo_layer_5 (by decide) (fun q9 => absurd q9 (by decide)) (fun _ => ?_)
    refine ev_iload_n dMo_layer_8 rfl rfl ?_
    refine ev_if_lt (tgt := 22) dMo_layer_9 (by decide) (fun c9 => ?_) (fun c9 => ?_)
    · refine ev_ldc2 (v := -1) dMo_layer_22 qMo_138 ?_
      refine ev_lret dMo_layer_25 rfl ?_
      exact none_at i t q (if_pos c9)
    · refine ev_iload_n dMo_layer_12 rfl rfl ?_
      refine ev_aload_n dMo_layer_13 rfl rfl ?_
      refine ev_get dMo_layer_14 fMo_13 hM.2.1.1 rfl ?_
      refine ev_iload_n dMo_layer_17 rfl rfl ?_
      refine ev_iald dMo_layer_18 hM.2.1.g2 rfl rfl (by omega) (by decide) ?_
      refine ev_top (k2) ?_
      refine ev_icmp_lt (tgt := 26) dMo_layer_19 (by decide) (fun c19 => ?_) (fun c19 => ?_)
      · obtain ⟨j, hj, rfl⟩ := nI_of c9
        rw [nI_ltI (by omega) (by omega)] at c19
        obtain ⟨p, hp⟩ := sl_get (ls := t_ls t) (j := j) c19
        have hp1 := o.2.2.2.2.2.2.2.1 p (List.mem_of_getElem? hp)
        have hla : lay_at (t_ls t) (nI j) = some p := (by rw [lay_at, if_neg c9, nI_clamp hj, hp])
        rw [layer_s, q] at hk
        simp only [hla] at hk
        refine ev_iload_n dMo_layer_26 rfl rfl ?_
        refine ev_if_ne (tgt := 45) dMo_layer_27 (by decide) (fun c27 => ?_) (fun c27 => ?_)
        · rw [if_neg (show ¬ w = nI 0 from c27)] at hk
          refine ev_iload_n dMo_layer_45 rfl rfl ?_
          refine ev_iconst (v := nI 1) dMo_layer_46 (by decide) ?_
          refine ev_icmp_ne (tgt := 64) dMo_layer_47 (by decide) (fun c47 => ?_) (fun c47 => ?_)
          · rw [if_neg c47] at hk
            refine ev_ldc2 (v := -1) dMo_layer_64 qMo_138 ?_
            refine ev_lret dMo_layer_67 rfl ?_
            exact hk
          · rw [if_pos c47] at hk
            refine ev_aload_n dMo_layer_50 rfl rfl ?_
            refine ev_get dMo_layer_51 fMo_19 hM.2.1.1 rfl ?_
            refine ev_bipush (v := nI 81) dMo_layer_54 (by decide) ?_
            refine ev_iload_n dMo_layer_56 rfl rfl ?_
            refine ev_imul dMo_layer_57 ?_
            refine ev_iload_n dMo_layer_58 rfl rfl ?_
            refine ev_iadd dMo_layer_59 ?_
            refine ev_lald dMo_layer_60 hM.2.1.g4 rfl (mo_ix _ _) (by omega) (by decide) ?_
            refine ev_topl ((k3 j p hp).2) ?_
            refine ev_goto (tgt := 67) dMo_layer_61 (by decide) ?_
            refine ev_lret dMo_layer_67 rfl ?_
            exact hk
        · rw [if_pos (show w = nI 0 from c27)] at hk
          refine ev_aload_n dMo_layer_30 rfl rfl ?_
          refine ev_get dMo_layer_31 fMo_16 hM.2.1.1 rfl ?_
          refine ev_bipush (v := nI 81) dMo_layer_34 (by decide) ?_
          refine ev_iload_n dMo_layer_36 rfl rfl ?_
          refine ev_imul dMo_layer_37 ?_
          refine ev_iload_n dMo_layer_38 rfl rfl ?_
          refine ev_iadd dMo_layer_39 ?_
          refine ev_iald dMo_layer_40 hM.2.1.g3 rfl (mo_ix _ _) (by omega) (by decide) ?_
          refine ev_top ((k3 j p hp).1) ?_
          refine ev_i2l dMo_layer_41 ?_
          refine ev_topl (nI_l (by omega)) ?_
          refine ev_goto (tgt := 67) dMo_layer_42 (by decide) ?_
          refine ev_lret dMo_layer_67 rfl ?_
          exact hk
      · skip
        refine ev_ldc2 (v := -1) dMo_layer_22 qMo_138 ?_
        refine ev_lret dMo_layer_25 rfl ?_
        obtain ⟨j, hj, rfl⟩ := nI_of c9
        rw [nI_ltI (by omega) (by omega)] at c19
        exact none_at i t q (by rw [lay_at, if_neg c9, nI_clamp hj, List.getElem?_eq_none (by omega)])
  · refine ev_if_eq (tgt := 22) dMo_layer_5 (by decide) (fun _ => ?_) (fun q9 => absurd (by decide) q9)
    refine ev_ldc2 (v := -1) dMo_layer_22 qMo_138 ?_
    refine ev_lret dMo_layer_25 rfl ?_
    rw [layer_s, q] at hk
    exact hk
end MO1
