/-! the reference: papers -/
def MoP (iv : Nat → Int32) (ia : Nat → Nat → Int32) (ys : List Int32) : Prop := iv 9 = nI ys.length ∧ (∀ k v, ys[k]? = some v → ia 26 k = v)
def mo_pr (iv iv' : Nat → Int32) (ia ia' : Nat → Nat → Int32) : Prop := (∀ j, j ≠ 9 → iv' j = iv j) ∧ (∀ j, j ≠ 26 → ia' j = ia j)
theorem lN_mulN (a b : Nat) : lN a * lN b = lN (a * b) := by
  unfold lN; simp [Int64.ofNat_mul]
section MOPP
variable {G : xG} {l : Launch} {d bc bs : Nat} {h h0 : xH} {n : Nat} {P : Option Value → xH → Nat → Prop} {ad tg : Nat → Nat} {T : Nat} {iv iv' iv2 : Nat → Int32} {ia ia' ia2 : Nat → Nat → Int32} {la : Nat → Nat → Int64} {ts : List sT} {ys : List Int32}
theorem mo_pr.rf : mo_pr iv iv ia ia := ⟨fun _ _ => rfl, fun _ _ => rfl⟩
theorem mo_pr.tr (a : mo_pr iv iv' ia ia') (b : mo_pr iv' iv2 ia' ia2) : mo_pr iv iv2 ia ia2 := ⟨fun j hj => (b.1 j hj).trans (a.1 j hj), fun j hj => (b.2 j hj).trans (a.2 j hj)⟩
theorem MoT.pr (hT : MoT iv ia la ts) (z : mo_pr iv iv' ia ia') : MoT iv' ia' la ts := hT.eq (z.1 0 (by omega)) (fun j _ _ => z.2 j (by omega)) (fun _ _ _ => rfl)
set_option maxRecDepth 20000 in
theorem Mo_write_ok {v : Int32} (hl : ys.length < 1300) (hM : MoK h0 h ad tg T iv ia la) (hP : MoP iv ia ys) (hk : ∀ h' iv' ia', MoK h0 h' ad tg T iv' ia' la → MoP iv' ia' (ys ++ [v]) → mo_pr iv iv' ia ia' → P none h' n) : ev_Run G l d bc bs mMo_write 0 [some (.ref (ad 1000)), some (.int v)] [] h n P := by
  obtain ⟨z1, z2⟩ := hP
  refine ev_aload_n dMo_write_0 rfl rfl ?_
  refine ev_get dMo_write_1 fMo_87 hM.2.1.1 rfl ?_
  refine ev_aload_n dMo_write_4 rfl rfl ?_
  refine ev_get dMo_write_5 fMo_195 hM.2.1.1 rfl ?_
  refine ev_iload_n dMo_write_8 rfl rfl ?_
  refine ev_iast dMo_write_9 hM.2.1.g26 rfl (z1) (by omega) (by decide) ?_
  refine mo_ist (j := 26) (t := 0) (N := 1300) hM (by decide) (fun h9 m9 => ?_)
  refine ev_aload_n dMo_write_10 rfl rfl ?_
  refine ev_dup dMo_write_11 rfl ?_
  refine ev_get dMo_write_12 fMo_195 m9.2.1.1 rfl ?_
  refine ev_iconst (v := nI 1) dMo_write_15 (by decide) ?_
  refine ev_iadd dMo_write_16 ?_
  refine ev_top (y := nI (ys.length + 1)) (by rw [z1]; exact nI_add _ _) ?_
  refine ev_put dMo_write_17 fMo_195 tMo_34 m9.2.1.1 rfl rfl (Nat.le_of_ble_eq_true rfl) ?_
  refine mo_put m9 Mo_c9 (fun h17 m17 => ?_)
  refine ev_vret dMo_write_20 rfl ?_
  refine hk _ _ _ m17 ⟨?_, fun k w hw => ?_⟩ ⟨fun j hj => upv_n hj, fun j hj => upv_n hj⟩
  · exact upv_s.trans (by simp)
  · show upd (ia 26) ys.length v k = w; rcases Nat.lt_or_ge k ys.length with q | q; (rw [List.getElem?_append_left q] at hw; rw [pk_un (by omega)]; exact z2 k w hw); (have hk1 := (List.getElem?_eq_some_iff.mp hw).1; have hk2 : k = ys.length := (by simp at hk1; omega); subst hk2; simp at hw; subst hw; exact pk_us)
set_option maxRecDepth 20000 in
set_option maxHeartbeats 1000000 in
theorem Mo_writeNumber_ok {v : Nat} (hv : v < 10 ^ 18) (hl : ys.length + ndg 17 v ≤ 1300) (hM : MoK h0 h ad tg T iv ia la) (hP : MoP iv ia ys) (hk : ∀ h' iv' ia', MoK h0 h' ad tg T iv' ia' la → MoP iv' ia' (ys ++ dgs (ndg 17 v) v) → mo_pr iv iv' ia ia' → P none h' n) : ev_Run G l (d + 1) bc bs mMo_writeNumber 0 [some (.ref (ad 1000)), some (.long (lN v)), none, none, none] [] h n P := by
  obtain ⟨n1, n2, n3, n4⟩ := ndg_spec 17 v hv
  have loop2 : ∀ e i h' iv' ia', i + e = ndg 17 v → MoK h0 h' ad tg T iv' ia' la → MoP iv' ia' (ys ++ (dgs (ndg 17 v) v).take i) → mo_pr iv iv' ia ia' → ev_Run G l (d + 1) bc bs mMo_writeNumber 21 [some (.ref (ad 1000)), some (.long (lN v)), none, some (.long (lN (if i < ndg 17 v then 10 ^ (ndg 17 v - 1 - i) else 0))), none] [] h' n P := by
    intro e
    induction e with
    | zero =>
      intro i h' iv' ia' hi hM' hP' hr
      rw [if_neg (by omega)]
      rw [List.take_of_length_le (by rw [dgs_len]; omega)] at hP'
      refine ev_lload_n dMo_writeNumber_21 rfl rfl ?_
      refine ev_lconst (v := lN 0) dMo_writeNumber_22 (by decide) ?_
      refine ev_lcmp_le (tgt := 51) dMo_writeNumber_23 dMo_writeNumber_24 (by decide) (fun c23 => ?_) (fun c23 => absurd (Int64.le_refl _) c23)
      refine ev_vret dMo_writeNumber_51 rfl ?_
      exact hk _ _ _ hM' hP' hr
    | succ e ih =>
      intro i h' iv' ia' hi hM' hP' hr
      have hlt : i < ndg 17 v := by omega
      have hpos : 0 < 10 ^ (ndg 17 v - 1 - i) := Nat.pow_pos (by decide)
      have hple : 10 ^ (ndg 17 v - 1 - i) ≤ 10 ^ 17 := Nat.pow_le_pow_right (by decide) (by omega)
      have h17 : (10 : Nat) ^ 17 = 100000000000000000 := by decide
      have h18 : (10 : Nat) ^ 18 = 1000000000000000000 := by decide
      have hdl : v / 10 ^ (ndg 17 v - 1 - i) ≤ v := Nat.div_le_self _ _
      have hq := ih (i + 1)
      have e10 : (if i + 1 < ndg 17 v then 10 ^ (ndg 17 v - 1 - (i + 1)) else 0) = 10 ^ (ndg 17 v - 1 - i) / 10 := by
        by_cases hz : i + 1 < ndg 17 v
        · rw [if_pos hz, show ndg 17 v - 1 - i = (ndg 17 v - 1 - (i + 1)) + 1 by omega, Nat.pow_succ, Nat.mul_div_cancel _ (by decide)]
        · rw [if_neg hz, show ndg 17 v - 1 - i = 0 by omega]
      rw [e10, List.take_add_one, dgs_get hlt] at hq
      rw [if_pos hlt]
      have hlen : (ys ++ (dgs (ndg 17 v) v).take i).length = ys.length + i := by simp [dgs_len]; omega
      generalize hU : 10 ^ (ndg 17 v - 1 - i) = U at *
      refine ev_lload_n dMo_writeNumber_21 rfl rfl ?_
      refine ev_lconst (v := lN 0) dMo_writeNumber_22 (by decide) ?_
      refine ev_lcmp_le (tgt := 51) dMo_writeNumber_23 dMo_writeNumber_24 (by decide) (fun c23 => False.elim (absurd c23 (lN_pos (by omega) (by omega)))) (fun c23 => ?_)
      refine ev_aload_n dMo_writeNumber_27 rfl rfl ?_
      refine ev_bipush (v := nI 48) dMo_writeNumber_28 (by decide) ?_
      refine ev_lload_n dMo_writeNumber_30 rfl rfl ?_
      refine ev_lload_n dMo_writeNumber_31 rfl rfl ?_
      refine ev_ldiv dMo_writeNumber_32 (lN_ne0 hpos (by omega)) ?_
      refine ev_topl (pk_lDiv (by omega) hpos (by omega)) ?_
      refine ev_ldc2 (v := lN 10) dMo_writeNumber_33 qMo_200 ?_
      refine ev_lrem dMo_writeNumber_36 (by decide) ?_
      refine ev_topl (pk_lRem (b := 10) (by omega) (by decide) (by decide)) ?_
      refine ev_l2i dMo_writeNumber_37 ?_
      refine ev_top (lN_i _) ?_
      refine ev_iadd dMo_writeNumber_38 ?_
      refine ev_top (nI_add _ _) ?_
      refine cz_Mo_write dMo_writeNumber_39 lMo_202 hM'.2.1.1 (Nat.le_of_ble_eq_true rfl) (Mo_write_ok (by omega) hM' hP' (fun h2 iv2 ia2 mw p2 r2 => ?_))
      refine ev_lload_n dMo_writeNumber_42 rfl rfl ?_
      refine ev_ldc2 (v := lN 10) dMo_writeNumber_43 qMo_200 ?_
      refine ev_ldiv dMo_writeNumber_46 (by decide) ?_
      refine ev_topl (pk_lDiv (b := 10) (by omega) (by decide) (by decide)) ?_
      refine ev_lstore_n dMo_writeNumber_47 rfl (by decide) ?_
      refine ev_goto (tgt := 21) dMo_writeNumber_48 (by decide) ?_
      exact hq _ _ _ (by omega) mw (by rw [List.append_assoc] at p2; exact p2) (hr.tr r2)
  have loop1 : ∀ e k, k + e = 17 → (1 ≤ k → 10 ^ k ≤ v) → ev_Run G l (d + 1) bc bs mMo_writeNumber 2 [some (.ref (ad 1000)), some (.long (lN v)), none, some (.long (lN (10 ^ k))), none] [] h n P := by
    have h17 : (10 : Nat) ^ 17 = 100000000000000000 := by decide
    have h18 : (10 : Nat) ^ 18 = 1000000000000000000 := by decide
    have fin : ∀ k, k ≤ 17 → (1 ≤ k → 10 ^ k ≤ v) → v / 10 ^ k ≤ 9 → ev_Run G l (d + 1) bc bs mMo_writeNumber 21 [some (.ref (ad 1000)), some (.long (lN v)), none, some (.long (lN (10 ^ k))), none] [] h n P := by
      intro k hk17 h1 h2
      have hpos : 0 < 10 ^ k := Nat.pow_pos (by decide)
      have hlt : v < 10 ^ (k + 1) := by
        rw [Nat.pow_succ]
        have := (Nat.div_lt_iff_lt_mul hpos).mp (show v / 10 ^ k < 10 by omega)
        omega
      have he := ndg_eq (n := k + 1) hv hlt (by omega) (fun z => by rw [Nat.add_sub_cancel]; exact h1 (by omega))
      have := loop2 (ndg 17 v) 0 h iv ia (by omega) hM (by simpa using hP) mo_pr.rf
      rw [if_pos (by omega), he, show k + 1 - 1 - 0 = k by omega] at this
      exact this
    intro e
    induction e with
    | zero =>
      intro k hk17 h1
      have hpos : 0 < 10 ^ k := Nat.pow_pos (by decide)
      have : k = 17 := by omega
      subst this
      have h2 : v / 10 ^ 17 ≤ 9 := by omega
      refine ev_lload_n dMo_writeNumber_2 rfl rfl ?_
      refine ev_lload_n dMo_writeNumber_3 rfl rfl ?_
      refine ev_ldiv dMo_writeNumber_4 (lN_ne0 hpos (by omega)) ?_
      refine ev_topl (pk_lDiv (by omega) hpos (by omega)) ?_
      refine ev_ldc2 (v := lN 9) dMo_writeNumber_5 qMo_198 ?_
      refine ev_lcmp_le (tgt := 21) dMo_writeNumber_8 dMo_writeNumber_9 (by decide) (fun c8 => ?_) (fun c8 => absurd ((pk_lLE (by omega) (by omega)).mpr h2) c8)
      exact fin 17 (by omega) h1 h2
    | succ e ih =>
      intro k hk17 h1
      have hpos : 0 < 10 ^ k := Nat.pow_pos (by decide)
      have hple : 10 ^ k ≤ 10 ^ 17 := Nat.pow_le_pow_right (by decide) (by omega)
      have hdl : v / 10 ^ k ≤ v := Nat.div_le_self _ _
      have hq := ih (k + 1) (by omega)
      have e10 : 10 ^ (k + 1) = 10 * 10 ^ k := by rw [Nat.pow_succ, Nat.mul_comm]
      have hf := fin k (by omega) h1
      refine ev_lload_n dMo_writeNumber_2 rfl rfl ?_
      refine ev_lload_n dMo_writeNumber_3 rfl rfl ?_
      refine ev_ldiv dMo_writeNumber_4 (lN_ne0 hpos (by omega)) ?_
      refine ev_topl (pk_lDiv (by omega) hpos (by omega)) ?_
      refine ev_ldc2 (v := lN 9) dMo_writeNumber_5 qMo_198 ?_
      refine ev_lcmp_le (tgt := 21) dMo_writeNumber_8 dMo_writeNumber_9 (by decide) (fun c8 => ?_) (fun c8 => ?_)
      · rw [pk_lLE (by omega) (by omega)] at c8
        exact hf c8
      · rw [pk_lLE (by omega) (by omega)] at c8
        refine ev_ldc2 (v := lN 10) dMo_writeNumber_12 qMo_200 ?_
        refine ev_lload_n dMo_writeNumber_15 rfl rfl ?_
        refine ev_lmul dMo_writeNumber_16 ?_
        refine ev_topl (lN_mulN _ _) ?_
        refine ev_lstore_n dMo_writeNumber_17 rfl (by decide) ?_
        refine ev_goto (tgt := 2) dMo_writeNumber_18 (by decide) ?_
        rw [← e10]
        exact hq (fun _ => by rw [e10]; have := (Nat.le_div_iff_mul_le hpos).mp (show 10 ≤ v / 10 ^ k by omega); omega)
  refine ev_lconst (v := lN 1) dMo_writeNumber_0 (by decide) ?_
  refine ev_lstore_n dMo_writeNumber_1 rfl (by decide) ?_
  exact loop1 17 0 (by omega) (fun z => absurd z (by omega))
set_option maxRecDepth 20000 in
set_option maxHeartbeats 2000000 in
theorem Mo_paper_ok {b c i : Int32} (hM : MoK h0 h ad tg T iv ia la) (hT : MoT iv ia la ts) (hk : ∀ h' iv' ia', MoK h0 h' ad tg T iv' ia' la → mo_pr iv iv' ia ia' → P (some (.int (paper_s ts b c i))) h' n) : ev_Run G l (d + 2) bc bs mMo_paper 0 [some (.ref (ad 1000)), some (.int b), some (.int c), some (.int i), none] [] h n P := by
  have h70 := hT.2.1
  have refuse : (∀ j t, fnd ts b = some (j, t) → ¬ (t_kind t = 3 ∧ (¬ c < 0 ∧ c ≤ nI 99))) → P (some (.int (-1))) h n := by
    intro hc
    have := hk h iv ia hM mo_pr.rf
    have e : paper_s ts b c i = -1 := by
      unfold paper_s
      cases hq : fnd ts b with
      | none => rfl
      | some p => exact if_neg (hc p.1 p.2 hq)
    rw [e] at this
    exact this
  have fin : ∀ j c' k ys' h' iv' ia', ys'.length ≤ 1300 → MoK h0 h' ad tg T iv' ia' la → MoP iv' ia' ys' → mo_pr iv iv' ia ia' → paper_s ts b c i = by_at ys' i → ev_Run G l (d + 2) bc bs mMo_paper 109 [some (.ref (ad 1000)), some (.int j), some (.int c'), some (.int i), some (.int k)] [] h' n P := by
    intro j c' k ys' h' iv' ia' hl hM' hP hr he
    have hk2 := hk h' iv' ia' hM' hr
    rw [he] at hk2
    obtain ⟨z1, z2⟩ := hP
    refine ev_iload_n dMo_paper_109 rfl rfl ?_
    refine ev_if_lt (tgt := 121) dMo_paper_110 (by decide) (fun c110 => ?_) (fun c110 => ?_)
    · refine ev_iconst (v := -1) dMo_paper_121 (by decide) ?_
      refine ev_goto (tgt := 131) dMo_paper_122 (by decide) ?_
      refine ev_iret dMo_paper_131 rfl rfl ?_
      rw [by_at_out (by omega) (Or.inl c110)] at hk2
      exact hk2
    · refine ev_iload_n dMo_paper_113 rfl rfl ?_
      refine ev_aload_n dMo_paper_114 rfl rfl ?_
      refine ev_get dMo_paper_115 fMo_195 hM'.2.1.1 rfl ?_
      refine ev_icmp_lt (tgt := 125) dMo_paper_118 (by decide) (fun c118 => ?_) (fun c118 => ?_)
      · obtain ⟨q, hq, rfl⟩ := nI_of c110
        rw [z1, nI_ltI hq (by omega)] at c118
        obtain ⟨v, hv⟩ : ∃ v, ys'[q]? = some v := ⟨_, List.getElem?_eq_getElem c118⟩
        refine ev_aload_n dMo_paper_125 rfl rfl ?_
        refine ev_get dMo_paper_126 fMo_87 hM'.2.1.1 rfl ?_
        refine ev_iload_n dMo_paper_129 rfl rfl ?_
        refine ev_iald dMo_paper_130 hM'.2.1.g26 rfl rfl (by have := (List.getElem?_eq_some_iff.mp hv).1; omega) (by decide) ?_
        refine ev_top (z2 q v hv) ?_
        refine ev_iret dMo_paper_131 rfl rfl ?_
        rw [by_at_in hq hv] at hk2
        exact hk2
      · skip
        refine ev_iconst (v := -1) dMo_paper_121 (by decide) ?_
        refine ev_goto (tgt := 131) dMo_paper_122 (by decide) ?_
        refine ev_iret dMo_paper_131 rfl rfl ?_
        rw [by_at_out (by omega) (Or.inr (by rw [← z1]; exact iI_nlt c118))] at hk2
        exact hk2
  have loop : ∀ j t c', fnd ts b = some (j, t) → t_kind t = 3 → c = nI c' → c' ≤ 99 → ∀ e k h' iv' ia', k + e = (t_ls t).length → MoK h0 h' ad tg T iv' ia' la → MoP iv' ia' (pp0 c' j ++ ((t_ls t).take k).flatMap pp1) → mo_pr iv iv' ia ia' → ev_Run G l (d + 2) bc bs mMo_paper 47 [some (.ref (ad 1000)), some (.int b), some (.int c), some (.int i), some (.int (nI k))] [] h' n P := by
    rintro j t c' q2 hkd rfl hc' e
    obtain ⟨hx1, hx2, hx3⟩ := fnd_some q2
    have hjl : j < ts.length := (List.getElem?_eq_some_iff.mp hx2).1
    have p0l : (pp0 c' j).length ≤ 5 := by
      have := ndg_le (v := c') (m := 2) (by omega) (by omega) (by omega)
      have := ndg_le (v := j) (m := 2) (by omega) (by omega) (by omega)
      simp [pp0, dgs_len]; omega
    have hps : paper_s ts b (nI c') i = by_at (pp0 c' j ++ (t_ls t).flatMap pp1) i := by
      rw [paper_s, q2]
      simp only []
      rw [if_pos ⟨hkd, nI_pos (by omega), (nI_leI (by omega) (by decide)).mpr hc'⟩, nI_clamp (by omega)]
    obtain ⟨-, k10, o⟩ := hT.2.2.1 j t hx2
    have hhb := o.2.2.2.2.2.2.2.1
    have hgb := o.2.2.2.2.2.2.2.2.1
    induction e with
    | zero =>
      intro k h' iv' ia' hke hM' hP hr
      obtain ⟨⟨-, k2, -⟩, -⟩ := (hT.pr hr).2.2.1 j t hx2
      rw [List.take_of_length_le (by omega)] at hP
      have hfl := pp_len hhb hgb
      refine ev_iload dMo_paper_47 rfl ?_
      refine ev_aload_n dMo_paper_49 rfl rfl ?_
      refine ev_get dMo_paper_50 fMo_13 hM'.2.1.1 rfl ?_
      refine ev_iload_n dMo_paper_53 rfl rfl ?_
      refine ev_iald dMo_paper_54 hM'.2.1.g2 rfl (hx1) (by omega) (by decide) ?_
      refine ev_top (k2) ?_
      refine ev_icmp_ge (tgt := 109) dMo_paper_55 (by decide) (fun c55 => ?_) (fun c55 => absurd (nI_le (by omega) (by omega)) c55)
      exact fin _ _ _ _ _ _ _ (by rw [List.length_append]; omega) hM' hP hr hps
    | succ e ih =>
      intro k h' iv' ia' hke hM' hP hr
      obtain ⟨⟨-, k2, k3, -⟩, -⟩ := (hT.pr hr).2.2.1 j t hx2
      obtain ⟨p, hp⟩ := sl_get (ls := t_ls t) (j := k) (by omega)
      have hp1 := hhb p (List.mem_of_getElem? hp)
      have hp2 := (hgb p (List.mem_of_getElem? hp)).2
      have hfl := pp_len (ls := (t_ls t).take k) (fun q hq => hhb q (List.mem_of_mem_take hq)) (fun q hq => hgb q (List.mem_of_mem_take hq))
      have htk : ((t_ls t).take k).length = k := by simp; omega
      have hn1 := ndg_le (v := p.1) (m := 2) (by omega) (by omega) (by omega)
      have hn2 := ndg_le (v := p.2) (m := 10) (by omega) (by omega) (by omega)
      have hlen0 : (pp0 c' j ++ ((t_ls t).take k).flatMap pp1).length ≤ 5 + 14 * k := by rw [List.length_append]; omega
      have hj := ih (k + 1)
      rw [pp_take hp, ← List.append_assoc] at hj
      generalize pp0 c' j ++ ((t_ls t).take k).flatMap pp1 = zs at *
      refine ev_iload dMo_paper_47 rfl ?_
      refine ev_aload_n dMo_paper_49 rfl rfl ?_
      refine ev_get dMo_paper_50 fMo_13 hM'.2.1.1 rfl ?_
      refine ev_iload_n dMo_paper_53 rfl rfl ?_
      refine ev_iald dMo_paper_54 hM'.2.1.g2 rfl (hx1) (by omega) (by decide) ?_
      refine ev_top (k2) ?_
      refine ev_icmp_ge (tgt := 109) dMo_paper_55 (by decide) (fun c55 => False.elim (absurd c55 (nI_ge (by omega) (by omega)))) (fun c55 => ?_)
      refine ev_aload_n dMo_paper_58 rfl rfl ?_
      refine ev_bipush (v := nI 32) dMo_paper_59 (by decide) ?_
      refine cz_Mo_write dMo_paper_61 lMo_202 hM'.2.1.1 (Nat.le_of_ble_eq_true rfl) (Mo_write_ok (by omega) hM' hP (fun h1 iv1 ia1 w1 P1 r1 => ?_))
      obtain ⟨⟨-, -, k31, -⟩, -⟩ := (hT.pr (hr.tr r1)).2.2.1 j t hx2
      refine ev_aload_n dMo_paper_64 rfl rfl ?_
      refine ev_aload_n dMo_paper_65 rfl rfl ?_
      refine ev_get dMo_paper_66 fMo_16 w1.2.1.1 rfl ?_
      refine ev_bipush (v := nI 81) dMo_paper_69 (by decide) ?_
      refine ev_iload_n dMo_paper_71 rfl rfl ?_
      refine ev_imul dMo_paper_72 ?_
      refine ev_iload dMo_paper_73 rfl ?_
      refine ev_iadd dMo_paper_75 ?_
      refine ev_iald dMo_paper_76 w1.2.1.g3 rfl ((by rw [hx1]; exact mo_ix _ _)) (by omega) (by decide) ?_
      refine ev_top ((k31 k p hp).1) ?_
      refine ev_i2l dMo_paper_77 ?_
      refine ev_topl (nI_l (by omega)) ?_
      refine cz_Mo_writeNumber dMo_paper_78 lMo_205 w1.2.1.1 (Nat.le_of_ble_eq_true rfl) (Mo_writeNumber_ok (v := p.1) (by omega) (by rw [List.length_append]; simp; omega) w1 P1 (fun h2 iv2 ia2 w2 P2 r2 => ?_))
      have hl3 : ((zs ++ [nI 32]) ++ dgs (ndg 17 p.1) p.1).length = zs.length + 1 + ndg 17 p.1 := (by simp [dgs_len]; omega)
      refine ev_aload_n dMo_paper_81 rfl rfl ?_
      refine ev_bipush (v := nI 58) dMo_paper_82 (by decide) ?_
      refine cz_Mo_write dMo_paper_84 lMo_202 w2.2.1.1 (Nat.le_of_ble_eq_true rfl) (Mo_write_ok (by omega) w2 P2 (fun h3 iv3 ia3 w3 P3 r3 => ?_))
      obtain ⟨⟨-, -, k33, -⟩, -⟩ := (hT.pr (((hr.tr r1).tr r2).tr r3)).2.2.1 j t hx2
      refine ev_aload_n dMo_paper_87 rfl rfl ?_
      refine ev_aload_n dMo_paper_88 rfl rfl ?_
      refine ev_get dMo_paper_89 fMo_19 w3.2.1.1 rfl ?_
      refine ev_bipush (v := nI 81) dMo_paper_92 (by decide) ?_
      refine ev_iload_n dMo_paper_94 rfl rfl ?_
      refine ev_imul dMo_paper_95 ?_
      refine ev_iload dMo_paper_96 rfl ?_
      refine ev_iadd dMo_paper_98 ?_
      refine ev_lald dMo_paper_99 w3.2.1.g4 rfl ((by rw [hx1]; exact mo_ix _ _)) (by omega) (by decide) ?_
      refine ev_topl ((k33 k p hp).2) ?_
      refine cz_Mo_writeNumber dMo_paper_100 lMo_205 w3.2.1.1 (Nat.le_of_ble_eq_true rfl) (Mo_writeNumber_ok (v := p.2) (by omega) (by rw [List.length_append, hl3]; simp; omega) w3 P3 (fun h4 iv4 ia4 w4 P4 r4 => ?_))
      refine ev_iinc dMo_paper_103 rfl (ev_inc1 _) (by decide) ?_
      refine ev_goto (tgt := 47) dMo_paper_106 (by decide) ?_
      exact hj _ _ _ (by omega) w4 (by simpa [pp1, List.append_assoc] using P4) ((((hr.tr r1).tr r2).tr r3).tr r4)
  refine ev_aload_n dMo_paper_0 rfl rfl ?_
  refine ev_iload_n dMo_paper_1 rfl rfl ?_
  refine ev_iconst (v := nI 3) dMo_paper_2 (by decide) ?_
  refine cz_Mo_isOf dMo_paper_3 lMo_116 hM.2.1.1 (Nat.le_of_ble_eq_true rfl) (Mo_isOf_ok (w := 3) (by decide) hM hT (fun j t q2 qk => ?_) (fun q2 => ?_))
  · obtain ⟨hx1, hx2, hx3⟩ := fnd_some q2
    have hjl : j < ts.length := (List.getElem?_eq_some_iff.mp hx2).1
    refine ev_if_eq (tgt := 19) dMo_paper_6 (by decide) (fun q9 => absurd q9 (by decide)) (fun _ => ?_)
    refine ev_iload_n dMo_paper_9 rfl rfl ?_
    refine ev_if_lt (tgt := 19) dMo_paper_10 (by decide) (fun c10 => ?_) (fun c10 => ?_)
    · refine ev_iconst (v := -1) dMo_paper_19 (by decide) ?_
      refine ev_iret dMo_paper_20 rfl rfl ?_
      exact refuse (fun j t z y => y.2.1 c10)
    · refine ev_iload_n dMo_paper_13 rfl rfl ?_
      refine ev_bipush (v := nI 99) dMo_paper_14 (by decide) ?_
      refine ev_icmp_le (tgt := 21) dMo_paper_16 (by decide) (fun c16 => ?_) (fun c16 => ?_)
      · obtain ⟨c', hc', rfl⟩ := iI_lim (by decide) c10 c16
        have hn1 := ndg_le (v := c') (m := 2) (by omega) (by omega) (by omega)
        have hn2 := ndg_le (v := j) (m := 2) (by omega) (by omega) (by omega)
        refine ev_aload_n dMo_paper_21 rfl rfl ?_
        refine ev_iconst (v := nI 0) dMo_paper_22 (by decide) ?_
        refine ev_put dMo_paper_23 fMo_195 tMo_34 hM.2.1.1 rfl rfl (Nat.le_of_ble_eq_true rfl) ?_
        refine mo_put hM Mo_c9 (fun h23 m23 => ?_)
        refine ev_aload_n dMo_paper_26 rfl rfl ?_
        refine ev_iload_n dMo_paper_27 rfl rfl ?_
        refine ev_i2l dMo_paper_28 ?_
        refine ev_topl (nI_l (by omega)) ?_
        refine cz_Mo_writeNumber dMo_paper_29 lMo_205 m23.2.1.1 (Nat.le_of_ble_eq_true rfl) (Mo_writeNumber_ok (ys := []) (v := c') (by omega) (by simp; omega) m23 ⟨upv_s, fun k v hv => by simp at hv⟩ (fun h1 iv1 ia1 w1 P1 r1 => ?_))
        refine ev_aload_n dMo_paper_32 rfl rfl ?_
        refine ev_bipush (v := nI 47) dMo_paper_33 (by decide) ?_
        refine cz_Mo_write dMo_paper_35 lMo_202 w1.2.1.1 (Nat.le_of_ble_eq_true rfl) (Mo_write_ok (by simp [dgs_len]; omega) w1 P1 (fun h2 iv2 ia2 w2 P2 r2 => ?_))
        refine ev_aload_n dMo_paper_38 rfl rfl ?_
        refine ev_iload_n dMo_paper_39 rfl rfl ?_
        refine ev_i2l dMo_paper_40 ?_
        refine ev_topl (y := lN j) (by rw [hx1]; exact nI_l (by omega)) ?_
        refine cz_Mo_writeNumber dMo_paper_41 lMo_205 w2.2.1.1 (Nat.le_of_ble_eq_true rfl) (Mo_writeNumber_ok (v := j) (by omega) (by simp [dgs_len]; omega) w2 P2 (fun h3 iv3 ia3 w3 P3 r3 => ?_))
        refine ev_iconst (v := nI 0) dMo_paper_44 (by decide) ?_
        refine ev_istore dMo_paper_45 (by decide) ?_
        exact loop j t c' q2 qk rfl hc' (t_ls t).length 0 _ _ _ (by omega) w3 (by simpa [pp0, List.append_assoc] using P3) (mo_pr.tr ⟨fun j hj => upv_n hj, fun _ _ => rfl⟩ ((r1.tr r2).tr r3))
      · skip
        refine ev_iconst (v := -1) dMo_paper_19 (by decide) ?_
        refine ev_iret dMo_paper_20 rfl rfl ?_
        exact refuse (fun j t z y => c16 y.2.2)
  · refine ev_if_eq (tgt := 19) dMo_paper_6 (by decide) (fun _ => ?_) (fun q9 => absurd (by decide) q9)
    refine ev_iconst (v := -1) dMo_paper_19 (by decide) ?_
    refine ev_iret dMo_paper_20 rfl rfl ?_
    exact refuse (fun j t z y => q2 j t z y.1)
end MOPP
