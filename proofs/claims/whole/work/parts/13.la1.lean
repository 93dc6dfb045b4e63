section LA1
variable {G : xG} {l : Launch} {d bc bs : Nat} {h : xH} {n : Nat} {P : Option Value → xH → Nat → Prop} {la ia ga : Nat} {ls : sL}
set_option maxRecDepth 20000 in
theorem La_size_ok (hL : La h la ia ga ls) (hk : P (some (.int (nI ls.length))) h n) : ev_Run G l d bc bs mLa_size 0 [some (.ref la)] [] h n P := by
  obtain ⟨f, g, h1, h2, h3, hl, hfg⟩ := hL
  refine ev_aload_n dLa_size_0 rfl rfl ?_
  refine ev_get dLa_size_1 fLa_19 h1 rfl ?_
  refine ev_iret dLa_size_4 rfl rfl ?_
  exact hk
set_option maxRecDepth 20000 in
theorem La_total_ok (hL : La h la ia ga ls) (hk : P (some (.long (lN (sl_tot ls)))) h n) : ev_Run G l d bc bs mLa_total 0 [some (.ref la), none, none, none] [] h n P := by
  obtain ⟨f, g, h1, h2, h3, hl, hfg⟩ := hL
  have loop : ∀ e j, j + e = ls.length → ev_Run G l d bc bs mLa_total 4 [some (.ref la), some (.long (lN (sl_tot (ls.take j)))), none, some (.int (nI j))] [] h n P := by
    intro e
    induction e with
    | zero =>
      intro j hj
      refine ev_iload_n dLa_total_4 rfl rfl ?_
      refine ev_aload_n dLa_total_5 rfl rfl ?_
      refine ev_get dLa_total_6 fLa_19 h1 rfl ?_
      refine ev_icmp_ge (tgt := 27) dLa_total_9 (by decide) (fun c9 => ?_) (fun c9 => absurd (nI_le (by omega) (by omega)) c9)
      refine ev_lload_n dLa_total_27 rfl rfl ?_
      refine ev_lret dLa_total_28 rfl ?_
      rw [List.take_of_length_le (by omega)]
      exact hk
    | succ e ih =>
      intro j hj
      obtain ⟨p, hp⟩ := sl_get (ls := ls) (j := j) (by omega)
      refine ev_iload_n dLa_total_4 rfl rfl ?_
      refine ev_aload_n dLa_total_5 rfl rfl ?_
      refine ev_get dLa_total_6 fLa_19 h1 rfl ?_
      refine ev_icmp_ge (tgt := 27) dLa_total_9 (by decide) (fun c9 => False.elim (absurd c9 (nI_ge (by omega) (by omega)))) (fun c9 => ?_)
      refine ev_lload_n dLa_total_12 rfl rfl ?_
      refine ev_aload_n dLa_total_13 rfl rfl ?_
      refine ev_get dLa_total_14 fLa_15 h1 rfl ?_
      refine ev_iload_n dLa_total_17 rfl rfl ?_
      refine ev_lald dLa_total_18 h3 rfl rfl (by omega) (by decide) ?_
      refine ev_ladd dLa_total_19 ?_
      refine ev_topl (y := lN (sl_tot (ls.take (j + 1)))) (by rw [(hfg j p hp).2, lN_add, sl_tot_take hp]) ?_
      refine ev_lstore_n dLa_total_20 rfl (by decide) ?_
      refine ev_iinc dLa_total_21 rfl (ev_inc1 _) (by decide) ?_
      refine ev_goto (tgt := 4) dLa_total_24 (by decide) ?_
      exact ih (j + 1) (by omega)
  refine ev_lconst (v := lN 0) dLa_total_0 (by decide) ?_
  refine ev_lstore_n dLa_total_1 rfl (by decide) ?_
  refine ev_iconst (v := nI 0) dLa_total_2 (by decide) ?_
  refine ev_istore_n dLa_total_3 rfl (by decide) ?_
  exact loop ls.length 0 (by omega)
set_option maxRecDepth 20000 in
theorem La_haulAt_in {k : Nat} {p : Nat × Nat} {x : Int32} (hL : La h la ia ga ls) (hp : ls[k]? = some p) (hx : x = nI k) (hk : P (some (.int (nI p.1))) h n) : ev_Run G l d bc bs mLa_haulAt 0 [some (.ref la), some (.int x)] [] h n P := by
  obtain ⟨f, g, h1, h2, h3, hl, hfg⟩ := hL
  have hkl : k < ls.length := (List.getElem?_eq_some_iff.mp hp).1
  subst hx
  refine ev_iload_n dLa_haulAt_0 rfl rfl ?_
  refine ev_if_lt (tgt := 21) dLa_haulAt_1 (by decide) (fun c1 => False.elim (absurd c1 (nI_pos (by omega)))) (fun c1 => ?_)
  refine ev_iload_n dLa_haulAt_4 rfl rfl ?_
  refine ev_aload_n dLa_haulAt_5 rfl rfl ?_
  refine ev_get dLa_haulAt_6 fLa_19 h1 rfl ?_
  refine ev_icmp_ge (tgt := 21) dLa_haulAt_9 (by decide) (fun c9 => False.elim (absurd c9 (nI_ge (by omega) (by omega)))) (fun c9 => ?_)
  refine ev_aload_n dLa_haulAt_12 rfl rfl ?_
  refine ev_get dLa_haulAt_13 fLa_9 h1 rfl ?_
  refine ev_iload_n dLa_haulAt_16 rfl rfl ?_
  refine ev_iald dLa_haulAt_17 h2 rfl rfl (by omega) (by decide) ?_
  refine ev_goto (tgt := 22) dLa_haulAt_18 (by decide) ?_
  refine ev_iret dLa_haulAt_22 rfl rfl ?_
  rw [(hfg k p hp).1]
  exact hk
set_option maxRecDepth 20000 in
theorem La_haulAt_out {x : Int32} (hL : La h la ia ga ls) (hx : x < 0 ∨ nI ls.length ≤ x) (hk : P (some (.int (-1))) h n) : ev_Run G l d bc bs mLa_haulAt 0 [some (.ref la), some (.int x)] [] h n P := by
  obtain ⟨f, g, h1, h2, h3, hl, hfg⟩ := hL
  refine ev_iload_n dLa_haulAt_0 rfl rfl ?_
  refine ev_if_lt (tgt := 21) dLa_haulAt_1 (by decide) (fun c1 => ?_) (fun c1 => ?_)
  · refine ev_iconst (v := -1) dLa_haulAt_21 (by decide) ?_
    refine ev_iret dLa_haulAt_22 rfl rfl ?_
    exact hk
  · refine ev_iload_n dLa_haulAt_4 rfl rfl ?_
    refine ev_aload_n dLa_haulAt_5 rfl rfl ?_
    refine ev_get dLa_haulAt_6 fLa_19 h1 rfl ?_
    refine ev_icmp_ge (tgt := 21) dLa_haulAt_9 (by decide) (fun c9 => ?_) (fun c9 => ?_)
    · refine ev_iconst (v := -1) dLa_haulAt_21 (by decide) ?_
      refine ev_iret dLa_haulAt_22 rfl rfl ?_
      exact hk
    · exact absurd hx (fun q => q.elim c1 c9)
      
end LA1
