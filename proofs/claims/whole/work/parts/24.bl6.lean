abbrev box_c (ts : List sT) (q : Nat × sT) (g : Int64) (c : Int32) : Prop := ¬ t_kind q.2 = 3 ∧ (¬ c < 0 ∧ c ≤ nI 99) ∧ t_held q.2 = 0 ∧ (lN 1 ≤ g ∧ g ≤ lN (sl_tot (t_ls q.2))) ∧ ts.length < 70
def box_s (ts : List sT) (f : Int32) (g : Int64) (c : Int32) : Int32 × List sT := match fnd ts f with
  | none => (-1, ts)
  | some q => if box_c ts q g c then (nI ts.length, (ts.set q.1 (t_setL q.2 (sl_rs (t_ls q.2) (gN g)))) ++ [(3, c.toNatClampNeg, 0, 0, 0, 0, t_warm q.2, sl_jl [] (sl_tk (t_ls q.2) (gN g)))]) else (-1, ts)
def told_s (ts : List sT) (x y : Int32) : Int64 := match fnd ts x with
  | none => -1
  | some p => fact_s p.2 y
def lay_at (ls : sL) (k : Int32) : Option (Nat × Nat) := if k < 0 then none else ls[k.toNatClampNeg]?
def layer_s (ts : List sT) (x k w : Int32) : Int64 := match fnd ts x with
  | none => -1
  | some p => if w = nI 0 then (match lay_at (t_ls p.2) k with
    | none => -1
    | some r => lN r.1) else if w = nI 1 then (match lay_at (t_ls p.2) k with
    | none => -1
    | some r => lN r.2) else -1
theorem lay_at_c (ls : sL) (hl : ls.length ≤ 80) (k : Int32) : (lay_at ls k = none ∧ (k < 0 ∨ nI ls.length ≤ k)) ∨ ∃ j r, ls[j]? = some r ∧ k = nI j ∧ lay_at ls k = some r := by
  rcases pk_ix k (n := ls.length) (by omega) with h | h | ⟨j, hj, rfl⟩
  · exact Or.inl ⟨if_pos h, Or.inl h⟩
  · refine Or.inl ⟨?_, Or.inr h⟩
    unfold lay_at
    by_cases h0 : k < 0
    · exact if_pos h0
    · obtain ⟨j, hj, rfl⟩ := nI_of h0
      rw [nI_leI (by omega) hj] at h
      rw [if_neg h0, nI_clamp hj, List.getElem?_eq_none h]
  · refine Or.inr ⟨j, ls[j], List.getElem?_eq_getElem hj, rfl, ?_⟩
    unfold lay_at
    rw [if_neg (nI_pos (by omega)), nI_clamp (by omega), List.getElem?_eq_getElem hj]
section BL6
variable {G : xG} {l : Launch} {d bc bs : Nat} {h h' : xH} {n n0 : Nat} {P : Option Value → xH → Nat → Prop} {ad tg : Nat → Nat} {lr lq : Nat} {ts ts' : List sT} {S : List Nat}
set_option maxRecDepth 20000 in
theorem BL_told_ok {x y : Int32} (hX : XT h n0 ad tg lr lq ts) (hk : P (some (.long (told_s ts x y))) h n) : ev_Run G l (d + 2) bc bs mBL_told 0 [some (.ref (ad 0)), some (.int x), some (.int y), none] [] h n P := by
  obtain ⟨hA, h0, -, hl, hT, hlr, hbd⟩ := id hX
  refine ev_aload_n dBL_told_0 rfl rfl ?_
  refine ev_iload_n dBL_told_1 rfl rfl ?_
  refine cz_BL_find dBL_told_2 lBL_96 h0 (Nat.le_of_ble_eq_true rfl) (BL_find_ok hX (fun i t q2 => ?_) (fun q2 => ?_))
  · obtain ⟨hx1, hx2, hx3⟩ := fnd_some q2
    obtain ⟨u, o⟩ := hT i t hx2
    refine ev_astore_n dBL_told_5 rfl (by decide) ?_
    refine ev_aload_n dBL_told_6 rfl rfl ?_
    refine ev_ifnonnull (tgt := 16) dBL_told_7 (by decide) ?_
    refine ev_aload_n dBL_told_16 rfl rfl ?_
    refine ev_iload_n dBL_told_17 rfl rfl ?_
    refine cz_Th_fact dBL_told_18 lBL_141 u.1 (Nat.le_of_ble_eq_true rfl) (Th_fact_ok u o ?_)
    refine ev_lret dBL_told_21 rfl ?_
    rw [told_s, q2] at hk
    exact hk
  · refine ev_astore_nN dBL_told_5 rfl (by decide) ?_
    refine ev_aload_nN dBL_told_6 rfl rfl ?_
    refine ev_ifnonnullN dBL_told_7 ?_
    refine ev_ldc2 (v := -1) dBL_told_10 qBL_122 ?_
    refine ev_goto (tgt := 21) dBL_told_13 (by decide) ?_
    refine ev_lret dBL_told_21 rfl ?_
    rw [told_s, q2] at hk
    exact hk
set_option maxRecDepth 20000 in
theorem BL_layer_ok {x k w : Int32} (hX : XT h n0 ad tg lr lq ts) (hk : P (some (.long (layer_s ts x k w))) h n) : ev_Run G l (d + 1) bc bs mBL_layer 0 [some (.ref (ad 0)), some (.int x), some (.int k), some (.int w), none] [] h n P := by
  obtain ⟨hA, h0, -, hl, hT, hlr, hbd⟩ := id hX
  have loc : ∀ i t, fnd ts x = some (i, t) → Th h (ad (100 + 4 * i)) (ad (101 + 4 * i)) (ad (102 + 4 * i)) (ad (103 + 4 * i)) t ∧ t_ok t := fun i t q => hT i t (fnd_some q).2.1
  cases hq : fnd ts x with
  | none =>
    rw [layer_s, hq] at hk
    refine ev_aload_n dBL_layer_0 rfl rfl ?_
    refine ev_iload_n dBL_layer_1 rfl rfl ?_
    refine cz_BL_find dBL_layer_2 lBL_96 h0 (Nat.le_of_ble_eq_true rfl) (BL_find_ok hX (fun i t q2 => ?_) (fun q2 => ?_))
    · rw [hq] at q2; cases q2
      
    · refine ev_astoreN dBL_layer_5 (by decide) ?_
      refine ev_aloadN dBL_layer_7 rfl ?_
      refine ev_ifnonnullN dBL_layer_9 ?_
      refine ev_ldc2 (v := -1) dBL_layer_12 qBL_122 ?_
      refine ev_lret dBL_layer_15 rfl ?_
      exact hk
  | some p =>
    obtain ⟨i, t⟩ := p
    obtain ⟨⟨u1, u2⟩, o⟩ := loc i t hq
    rw [layer_s, hq] at hk
    simp only [] at hk
    rcases lay_at_c (t_ls t) u2.len k with ⟨e1, e2⟩ | ⟨j, r, e1, e2, e3⟩
    · rw [e1] at hk
      refine ev_aload_n dBL_layer_0 rfl rfl ?_
      refine ev_iload_n dBL_layer_1 rfl rfl ?_
      refine cz_BL_find dBL_layer_2 lBL_96 h0 (Nat.le_of_ble_eq_true rfl) (BL_find_ok hX (fun i2 t2 q2 => ?_) (fun q2 => ?_))
      · rw [hq] at q2
        cases q2
        refine ev_astore dBL_layer_5 (by decide) ?_
        refine ev_aload dBL_layer_7 rfl ?_
        refine ev_ifnonnull (tgt := 16) dBL_layer_9 (by decide) ?_
        refine ev_iload_n dBL_layer_16 rfl rfl ?_
        by_cases s17_0 : w = nI 0
        · rw [s17_0]
          refine ev_look (off := 27) (tgt := 44) dBL_layer_17 (by decide) (by decide) (by decide) ?_
          refine ev_aload dBL_layer_44 rfl ?_
          refine ev_get dBL_layer_46 fBL_82 u1 rfl ?_
          refine ev_iload_n dBL_layer_49 rfl rfl ?_
          refine cz_La_haulAt dBL_layer_50 lBL_145 u2.obj (Nat.le_of_ble_eq_true rfl) (La_haulAt_out u2 e2 ?_)
          refine ev_i2l dBL_layer_53 ?_
          refine ev_lret dBL_layer_54 rfl ?_
          rw [if_pos s17_0] at hk
          exact hk
        by_cases s17_1 : w = nI 1
        · rw [s17_1]
          refine ev_look (off := 38) (tgt := 55) dBL_layer_17 (by decide) (by decide) (by decide) ?_
          refine ev_aload dBL_layer_55 rfl ?_
          refine ev_get dBL_layer_57 fBL_82 u1 rfl ?_
          refine ev_iload_n dBL_layer_60 rfl rfl ?_
          refine cz_La_gramsAt dBL_layer_61 lBL_149 u2.obj (Nat.le_of_ble_eq_true rfl) (La_gramsAt_out u2 e2 ?_)
          refine ev_lret dBL_layer_64 rfl ?_
          rw [if_neg s17_0, if_pos s17_1] at hk
          exact hk
        refine ev_look (off := 48) (tgt := 65) dBL_layer_17 (by decide) (by rw [lv_osw s17_0 (by decide), lv_osw s17_1 (by decide)]; rfl) (by decide) ?_
        refine ev_ldc2 (v := -1) dBL_layer_65 qBL_122 ?_
        refine ev_lret dBL_layer_68 rfl ?_
        rw [if_neg s17_0, if_neg s17_1] at hk
        exact hk
      · rw [hq] at q2; cases q2
        
    · rw [e3] at hk
      have hr1 := o.2.2.2.2.2.2.2.1 r (List.mem_of_getElem? e1)
      refine ev_aload_n dBL_layer_0 rfl rfl ?_
      refine ev_iload_n dBL_layer_1 rfl rfl ?_
      refine cz_BL_find dBL_layer_2 lBL_96 h0 (Nat.le_of_ble_eq_true rfl) (BL_find_ok hX (fun i2 t2 q2 => ?_) (fun q2 => ?_))
      · rw [hq] at q2
        cases q2
        refine ev_astore dBL_layer_5 (by decide) ?_
        refine ev_aload dBL_layer_7 rfl ?_
        refine ev_ifnonnull (tgt := 16) dBL_layer_9 (by decide) ?_
        refine ev_iload_n dBL_layer_16 rfl rfl ?_
        by_cases s17_0 : w = nI 0
        · rw [s17_0]
          refine ev_look (off := 27) (tgt := 44) dBL_layer_17 (by decide) (by decide) (by decide) ?_
          refine ev_aload dBL_layer_44 rfl ?_
          refine ev_get dBL_layer_46 fBL_82 u1 rfl ?_
          refine ev_iload_n dBL_layer_49 rfl rfl ?_
          refine cz_La_haulAt dBL_layer_50 lBL_145 u2.obj (Nat.le_of_ble_eq_true rfl) (La_haulAt_in u2 e1 e2 ?_)
          refine ev_i2l dBL_layer_53 ?_
          refine ev_topl (nI_l (by omega)) ?_
          refine ev_lret dBL_layer_54 rfl ?_
          rw [if_pos s17_0] at hk
          exact hk
        by_cases s17_1 : w = nI 1
        · rw [s17_1]
          refine ev_look (off := 38) (tgt := 55) dBL_layer_17 (by decide) (by decide) (by decide) ?_
          refine ev_aload dBL_layer_55 rfl ?_
          refine ev_get dBL_layer_57 fBL_82 u1 rfl ?_
          refine ev_iload_n dBL_layer_60 rfl rfl ?_
          refine cz_La_gramsAt dBL_layer_61 lBL_149 u2.obj (Nat.le_of_ble_eq_true rfl) (La_gramsAt_in u2 e1 e2 ?_)
          refine ev_lret dBL_layer_64 rfl ?_
          rw [if_neg s17_0, if_pos s17_1] at hk
          exact hk
        refine ev_look (off := 48) (tgt := 65) dBL_layer_17 (by decide) (by rw [lv_osw s17_0 (by decide), lv_osw s17_1 (by decide)]; rfl) (by decide) ?_
        refine ev_ldc2 (v := -1) dBL_layer_65 qBL_122 ?_
        refine ev_lret dBL_layer_68 rfl ?_
        rw [if_neg s17_0, if_neg s17_1] at hk
        exact hk
      · rw [hq] at q2; cases q2
        
end BL6
