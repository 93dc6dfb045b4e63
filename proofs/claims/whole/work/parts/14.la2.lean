/-! taking and joining -/
def sl_tk : sL → Nat → sL
  | [], _ => []
  | p :: t, g => if g = 0 then [] else if p.2 < g then p :: sl_tk t (g - p.2) else [(p.1, g)]
def sl_rs : sL → Nat → sL
  | [], _ => []
  | p :: t, g => if p.2 ≤ g then sl_rs t (g - p.2) else (p.1, p.2 - g) :: t
def sl_jn (T : sL) (a x : Nat) : sL := match T.getLast? with
  | some q => if q.1 = a then T.dropLast ++ [(a, q.2 + x)] else T ++ [(a, x)]
  | none => [(a, x)]
def sl_jl (T s : sL) : sL := s.foldl (fun u p => sl_jn u p.1 p.2) T
theorem sl_jn_nil (a x : Nat) : sl_jn [] a x = [(a, x)] := rfl
theorem sl_jn_same {T : sL} {q : Nat × Nat} {a x : Nat} (h : q.1 = a) : sl_jn (T ++ [q]) a x = T ++ [(a, q.2 + x)] := by
  simp [sl_jn, h]
theorem sl_jn_diff {T : sL} {q : Nat × Nat} {a x : Nat} (h : ¬ q.1 = a) : sl_jn (T ++ [q]) a x = (T ++ [q]) ++ [(a, x)] := by
  simp [sl_jn, h]
theorem sl_last (T : sL) : T = [] ∨ ∃ T0 q, T = T0 ++ [q] := by
  rcases List.eq_nil_or_concat T with h | ⟨L, b, h⟩
  · exact Or.inl h
  · exact Or.inr ⟨L, b, by simpa using h⟩
theorem sl_jn_len (T : sL) (a x : Nat) : T.length ≤ (sl_jn T a x).length ∧ (sl_jn T a x).length ≤ T.length + 1 := by
  rcases sl_last T with rfl | ⟨T0, q, rfl⟩
  · simp [sl_jn]
  · by_cases h : q.1 = a
    · rw [sl_jn_same h]; simp
    · rw [sl_jn_diff h]; simp
theorem sl_jl_len (s T : sL) : T.length ≤ (sl_jl T s).length := by
  induction s generalizing T with
  | nil => exact Nat.le_refl _
  | cons p t ih => exact Nat.le_trans (sl_jn_len T p.1 p.2).1 (ih _)
theorem sl_tk_0 (ls : sL) : sl_tk ls 0 = [] := by
  cases ls <;> simp [sl_tk]
theorem sl_drop {ls : sL} {j : Nat} {p : Nat × Nat} (h : ls[j]? = some p) : ls.drop j = p :: ls.drop (j + 1) := by
  obtain ⟨hj, rfl⟩ := List.getElem?_eq_some_iff.mp h
  exact List.drop_eq_getElem_cons hj
/-- hauls' numbers are small -/
def sl_hb (ls : sL) : Prop := ∀ p ∈ ls, p.1 < 100
/-- grams are some, and few -/
def sl_gb (ls : sL) : Prop := ∀ p ∈ ls, 1 ≤ p.2 ∧ p.2 < 10000000000
theorem sl_hb_jn {T : sL} {a x : Nat} (h : sl_hb T) (ha : a < 100) : sl_hb (sl_jn T a x) := by
  intro p hp
  rcases sl_last T with rfl | ⟨T0, q, rfl⟩
  · rw [sl_jn_nil] at hp; simp at hp; subst hp; exact ha
  · by_cases hq : q.1 = a
    · rw [sl_jn_same hq] at hp
      rcases List.mem_append.mp hp with hp | hp
      · exact h p (List.mem_append_left _ hp)
      · simp at hp; subst hp; exact ha
    · rw [sl_jn_diff hq] at hp
      rcases List.mem_append.mp hp with hp | hp
      · exact h p hp
      · simp at hp; subst hp; exact ha
theorem La.keep {h h' : xH} {S : List Nat} {la ia ga : Nat} {ls : sL} (hL : La h la ia ga ls) (ho : hp_off S h h') (h1 : la ∉ S) (h2 : ia ∉ S) (h3 : ga ∉ S) : La h' la ia ga ls := by
  obtain ⟨f, g, q1, q2, q3, q4, q5⟩ := hL
  exact ⟨f, g, (ho la h1).trans q1, (ho ia h2).trans q2, (ho ga h3).trans q3, q4, q5⟩
theorem La.ne {h : xH} {la ia ga : Nat} {ls : sL} (hL : La h la ia ga ls) : la ≠ ia ∧ la ≠ ga ∧ ia ≠ ga := by
  obtain ⟨f, g, q1, q2, q3, q4, q5⟩ := hL
  refine ⟨fun e => ?_, fun e => ?_, fun e => ?_⟩
  · rw [e, q2] at q1; cases q1
  · rw [e, q3] at q1; cases q1
  · rw [e, q3] at q2; cases q2
section LA2
variable {G : xG} {l : Launch} {d bc bs : Nat} {h : xH} {n : Nat} {P : Option Value → xH → Nat → Prop} {la ia ga : Nat} {ls : sL}
set_option maxRecDepth 20000 in
theorem La_gramsAt_in {k : Nat} {p : Nat × Nat} {x : Int32} (hL : La h la ia ga ls) (hp : ls[k]? = some p) (hx : x = nI k) (hk : P (some (.long (lN p.2))) h n) : ev_Run G l d bc bs mLa_gramsAt 0 [some (.ref la), some (.int x)] [] h n P := by
  obtain ⟨f, g, h1, h2, h3, hl, hfg⟩ := hL
  have hkl : k < ls.length := (List.getElem?_eq_some_iff.mp hp).1
  subst hx
  refine ev_iload_n dLa_gramsAt_0 rfl rfl ?_
  refine ev_if_lt (tgt := 21) dLa_gramsAt_1 (by decide) (fun c1 => False.elim (absurd c1 (nI_pos (by omega)))) (fun c1 => ?_)
  refine ev_iload_n dLa_gramsAt_4 rfl rfl ?_
  refine ev_aload_n dLa_gramsAt_5 rfl rfl ?_
  refine ev_get dLa_gramsAt_6 fLa_19 h1 rfl ?_
  refine ev_icmp_ge (tgt := 21) dLa_gramsAt_9 (by decide) (fun c9 => False.elim (absurd c9 (nI_ge (by omega) (by omega)))) (fun c9 => ?_)
  refine ev_aload_n dLa_gramsAt_12 rfl rfl ?_
  refine ev_get dLa_gramsAt_13 fLa_15 h1 rfl ?_
  refine ev_iload_n dLa_gramsAt_16 rfl rfl ?_
  refine ev_lald dLa_gramsAt_17 h3 rfl rfl (by omega) (by decide) ?_
  refine ev_goto (tgt := 24) dLa_gramsAt_18 (by decide) ?_
  refine ev_lret dLa_gramsAt_24 rfl ?_
  rw [(hfg k p hp).2]
  exact hk
set_option maxRecDepth 20000 in
theorem La_gramsAt_out {x : Int32} (hL : La h la ia ga ls) (hx : x < 0 ∨ nI ls.length ≤ x) (hk : P (some (.long (-1))) h n) : ev_Run G l d bc bs mLa_gramsAt 0 [some (.ref la), some (.int x)] [] h n P := by
  obtain ⟨f, g, h1, h2, h3, hl, hfg⟩ := hL
  refine ev_iload_n dLa_gramsAt_0 rfl rfl ?_
  refine ev_if_lt (tgt := 21) dLa_gramsAt_1 (by decide) (fun c1 => ?_) (fun c1 => ?_)
  · refine ev_ldc2 (v := -1) dLa_gramsAt_21 qLa_23 ?_
    refine ev_lret dLa_gramsAt_24 rfl ?_
    exact hk
  · refine ev_iload_n dLa_gramsAt_4 rfl rfl ?_
    refine ev_aload_n dLa_gramsAt_5 rfl rfl ?_
    refine ev_get dLa_gramsAt_6 fLa_19 h1 rfl ?_
    refine ev_icmp_ge (tgt := 21) dLa_gramsAt_9 (by decide) (fun c9 => ?_) (fun c9 => ?_)
    · refine ev_ldc2 (v := -1) dLa_gramsAt_21 qLa_23 ?_
      refine ev_lret dLa_gramsAt_24 rfl ?_
      exact hk
    · exact absurd hx (fun q => q.elim c1 c9)
      
set_option maxRecDepth 20000 in
theorem La_gramsOf_ok {t : Nat} (hL : La h la ia ga ls) (hb : sl_hb ls) (ht : t < 1000) (hk : P (some (.long (lN (sl_of ls t)))) h n) : ev_Run G l d bc bs mLa_gramsOf 0 [some (.ref la), some (.int (nI t)), none, none, none] [] h n P := by
  obtain ⟨f, g, h1, h2, h3, hl, hfg⟩ := hL
  have loop : ∀ e j, j + e = ls.length → ev_Run G l d bc bs mLa_gramsOf 5 [some (.ref la), some (.int (nI t)), some (.long (lN (sl_of (ls.take j) t))), none, some (.int (nI j))] [] h n P := by
    intro e
    induction e with
    | zero =>
      intro j hj
      refine ev_iload dLa_gramsOf_5 rfl ?_
      refine ev_aload_n dLa_gramsOf_7 rfl rfl ?_
      refine ev_get dLa_gramsOf_8 fLa_19 h1 rfl ?_
      refine ev_icmp_ge (tgt := 41) dLa_gramsOf_11 (by decide) (fun c11 => ?_) (fun c11 => absurd (nI_le (by omega) (by omega)) c11)
      refine ev_lload_n dLa_gramsOf_41 rfl rfl ?_
      refine ev_lret dLa_gramsOf_42 rfl ?_
      rw [List.take_of_length_le (by omega)]
      exact hk
    | succ e ih =>
      intro j hj
      obtain ⟨p, hp⟩ := sl_get (ls := ls) (j := j) (by omega)
      have hp1 := hb p (List.mem_of_getElem? hp)
      refine ev_iload dLa_gramsOf_5 rfl ?_
      refine ev_aload_n dLa_gramsOf_7 rfl rfl ?_
      refine ev_get dLa_gramsOf_8 fLa_19 h1 rfl ?_
      refine ev_icmp_ge (tgt := 41) dLa_gramsOf_11 (by decide) (fun c11 => False.elim (absurd c11 (nI_ge (by omega) (by omega)))) (fun c11 => ?_)
      refine ev_aload_n dLa_gramsOf_14 rfl rfl ?_
      refine ev_get dLa_gramsOf_15 fLa_9 h1 rfl ?_
      refine ev_iload dLa_gramsOf_18 rfl ?_
      refine ev_iald dLa_gramsOf_20 h2 rfl rfl (by omega) (by decide) ?_
      refine ev_iload_n dLa_gramsOf_21 rfl rfl ?_
      refine ev_icmp_ne (tgt := 35) dLa_gramsOf_22 (by decide) (fun c22 => ?_) (fun c22 => ?_)
      · have e1 : ¬ p.1 = t := fun z => c22 (by rw [(hfg j p hp).1, z])
        refine ev_iinc dLa_gramsOf_35 rfl (ev_inc1 _) (by decide) ?_
        refine ev_goto (tgt := 5) dLa_gramsOf_38 (by decide) ?_
        first | exact ih (j + 1) (by omega) | exact ev_Run.loc (by rw [show sl_of (ls.take (j + 1)) t = sl_of (ls.take j) t from (by rw [sl_of_take hp, if_neg e1, Nat.add_zero])]; rfl) (ih (j + 1) (by omega))
      · have e1 : p.1 = t := (nI_eq (by omega) (by omega)).mp (((hfg j p hp).1).symm.trans c22)
        refine ev_lload_n dLa_gramsOf_25 rfl rfl ?_
        refine ev_aload_n dLa_gramsOf_26 rfl rfl ?_
        refine ev_get dLa_gramsOf_27 fLa_15 h1 rfl ?_
        refine ev_iload dLa_gramsOf_30 rfl ?_
        refine ev_lald dLa_gramsOf_32 h3 rfl rfl (by omega) (by decide) ?_
        refine ev_ladd dLa_gramsOf_33 ?_
        refine ev_topl (y := lN (sl_of (ls.take (j + 1)) t)) (by rw [(hfg j p hp).2, lN_add, sl_of_take hp, if_pos e1]) ?_
        refine ev_lstore_n dLa_gramsOf_34 rfl (by decide) ?_
        refine ev_iinc dLa_gramsOf_35 rfl (ev_inc1 _) (by decide) ?_
        refine ev_goto (tgt := 5) dLa_gramsOf_38 (by decide) ?_
        first | exact ih (j + 1) (by omega) | exact ev_Run.loc (by rw [show sl_of (ls.take (j + 1)) t = sl_of (ls.take j) t from (by rw [sl_of_take hp, if_neg e1, Nat.add_zero])]; rfl) (ih (j + 1) (by omega))
  refine ev_lconst (v := lN 0) dLa_gramsOf_0 (by decide) ?_
  refine ev_lstore_n dLa_gramsOf_1 rfl (by decide) ?_
  refine ev_iconst (v := nI 0) dLa_gramsOf_2 (by decide) ?_
  refine ev_istore dLa_gramsOf_3 (by decide) ?_
  exact loop ls.length 0 (by omega)
set_option maxRecDepth 20000 in
theorem La_have_ok {x : Int64} (hL : La h la ia ga ls) (ht : lN 1 ≤ x → x ≤ lN (sl_tot ls) → P (some (.int (nI 1))) h n) (hf : ¬ (lN 1 ≤ x ∧ x ≤ lN (sl_tot ls)) → P (some (.int (nI 0))) h n) : ev_Run G l (d + 1) bc bs mLa_have 0 [some (.ref la), some (.long x), none] [] h n P := by
  obtain ⟨f, g, h1, -⟩ := id hL
  refine ev_lload_n dLa_have_0 rfl rfl ?_
  refine ev_lconst (v := lN 1) dLa_have_1 (by decide) ?_
  refine ev_lcmp_lt (tgt := 19) dLa_have_2 dLa_have_3 (by decide) (fun c2 => ?_) (fun c2 => ?_)
  · refine ev_iconst (v := nI 0) dLa_have_19 (by decide) ?_
    refine ev_iret dLa_have_20 rfl rfl ?_
    exact hf (fun q => lL_lt_nle c2 q.1)
  · refine ev_lload_n dLa_have_6 rfl rfl ?_
    refine ev_aload_n dLa_have_7 rfl rfl ?_
    refine cz_La_total dLa_have_8 lLa_25 h1 (Nat.le_of_ble_eq_true rfl) (La_total_ok hL ?_)
    refine ev_lcmp_gt (tgt := 19) dLa_have_11 dLa_have_12 (by decide) (fun c11 => ?_) (fun c11 => ?_)
    · refine ev_iconst (v := nI 0) dLa_have_19 (by decide) ?_
      refine ev_iret dLa_have_20 rfl rfl ?_
      exact hf (fun q => lL_lt_nle c11 q.2)
    · refine ev_iconst (v := nI 1) dLa_have_15 (by decide) ?_
      refine ev_goto (tgt := 20) dLa_have_16 (by decide) ?_
      refine ev_iret dLa_have_20 rfl rfl ?_
      exact ht (lL_nlt c2) (lL_nlt c11)
set_option maxRecDepth 20000 in
theorem La_sizeOf_ok {g0 : Nat} (hL : La h la ia ga ls) (hb : sl_gb ls) (hg : g0 < 2 ^ 62) (hk : P (some (.int (nI (sl_tk ls g0).length))) h n) : ev_Run G l d bc bs mLa_sizeOf 0 [some (.ref la), some (.long (lN g0)), none, none, none, none, none] [] h n P := by
  obtain ⟨f, g, h1, h2, h3, hl, hfg⟩ := hL
  have loop : ∀ e j x t, j + e = ls.length → x < 2 ^ 62 → t + (sl_tk (ls.drop j) x).length = (sl_tk ls g0).length → ev_Run G l d bc bs mLa_sizeOf 8 [some (.ref la), some (.long (lN g0)), none, some (.long (lN x)), none, some (.int (nI t)), some (.int (nI j))] [] h n P := by
    intro e
    induction e with
    | zero =>
      intro j x t hj hx ht
      rw [List.drop_eq_nil_of_le (by omega)] at ht
      have ht : t = (sl_tk ls g0).length := by simpa [sl_tk] using ht
      refine ev_iload dLa_sizeOf_8 rfl ?_
      refine ev_aload_n dLa_sizeOf_10 rfl rfl ?_
      refine ev_get dLa_sizeOf_11 fLa_19 h1 rfl ?_
      refine ev_icmp_ge (tgt := 42) dLa_sizeOf_14 (by decide) (fun c14 => ?_) (fun c14 => absurd (nI_le (by omega) (by omega)) c14)
      refine ev_iload dLa_sizeOf_42 rfl ?_
      refine ev_iret dLa_sizeOf_44 rfl rfl ?_
      rw [ht]
      exact hk
    | succ e ih =>
      intro j x t hj hx ht
      obtain ⟨p, hp⟩ := sl_get (ls := ls) (j := j) (by omega)
      have hp2 := hb p (List.mem_of_getElem? hp)
      rw [sl_drop hp] at ht
      rcases Nat.eq_zero_or_pos x with rfl | hx0
      · have ht : t = (sl_tk ls g0).length := by simpa [sl_tk] using ht
        refine ev_iload dLa_sizeOf_8 rfl ?_
        refine ev_aload_n dLa_sizeOf_10 rfl rfl ?_
        refine ev_get dLa_sizeOf_11 fLa_19 h1 rfl ?_
        refine ev_icmp_ge (tgt := 42) dLa_sizeOf_14 (by decide) (fun c14 => False.elim (absurd c14 (nI_ge (by omega) (by omega)))) (fun c14 => ?_)
        refine ev_lload_n dLa_sizeOf_17 rfl rfl ?_
        refine ev_lconst (v := lN 0) dLa_sizeOf_18 (by decide) ?_
        refine ev_lcmp_le (tgt := 42) dLa_sizeOf_19 dLa_sizeOf_20 (by decide) (fun c19 => ?_) (fun c19 => absurd (Int64.le_refl _) c19)
        refine ev_iload dLa_sizeOf_42 rfl ?_
        refine ev_iret dLa_sizeOf_44 rfl rfl ?_
        rw [ht]
        exact hk
      · rcases Nat.lt_or_ge x p.2 with hxp | hxp
        · have ht : t + 1 = (sl_tk ls g0).length := by
            simp only [sl_tk, if_neg (show ¬ x = 0 by omega), if_neg (show ¬ p.2 < x by omega)] at ht
            simpa using ht
          refine ev_iload dLa_sizeOf_8 rfl ?_
          refine ev_aload_n dLa_sizeOf_10 rfl rfl ?_
          refine ev_get dLa_sizeOf_11 fLa_19 h1 rfl ?_
          refine ev_icmp_ge (tgt := 42) dLa_sizeOf_14 (by decide) (fun c14 => False.elim (absurd c14 (nI_ge (by omega) (by omega)))) (fun c14 => ?_)
          refine ev_lload_n dLa_sizeOf_17 rfl rfl ?_
          refine ev_lconst (v := lN 0) dLa_sizeOf_18 (by decide) ?_
          refine ev_lcmp_le (tgt := 42) dLa_sizeOf_19 dLa_sizeOf_20 (by decide) (fun c19 => False.elim (absurd c19 (lN_pos hx0 (by omega)))) (fun c19 => ?_)
          refine ev_lload_n dLa_sizeOf_23 rfl rfl ?_
          refine ev_aload_n dLa_sizeOf_24 rfl rfl ?_
          refine ev_get dLa_sizeOf_25 fLa_15 h1 rfl ?_
          refine ev_iload dLa_sizeOf_28 rfl ?_
          refine ev_lald dLa_sizeOf_30 h3 rfl rfl (by omega) (by decide) ?_
          refine ev_lsub dLa_sizeOf_31 ?_
          refine ev_lstore_n dLa_sizeOf_32 rfl (by decide) ?_
          refine ev_iinc dLa_sizeOf_33 rfl (ev_inc1 _) (by decide) ?_
          refine ev_iinc dLa_sizeOf_36 rfl (ev_inc1 _) (by decide) ?_
          refine ev_goto (tgt := 8) dLa_sizeOf_39 (by decide) ?_
          skip
          rw [(hfg j p hp).2]
          refine ev_iload dLa_sizeOf_8 rfl ?_
          refine ev_aload_n dLa_sizeOf_10 rfl rfl ?_
          refine ev_get dLa_sizeOf_11 fLa_19 h1 rfl ?_
          refine ev_icmp_ge (tgt := 42) dLa_sizeOf_14 (by decide) (fun c14 => ?_) (fun c14 => ?_)
          · refine ev_iload dLa_sizeOf_42 rfl ?_
            refine ev_iret dLa_sizeOf_44 rfl rfl ?_
            rw [ht]
            exact hk
          · refine ev_lload_n dLa_sizeOf_17 rfl rfl ?_
            refine ev_lconst (v := lN 0) dLa_sizeOf_18 (by decide) ?_
            refine ev_lcmp_le (tgt := 42) dLa_sizeOf_19 dLa_sizeOf_20 (by decide) (fun c19 => ?_) (fun c19 => absurd (lN_neg hxp (by omega)) c19)
            refine ev_iload dLa_sizeOf_42 rfl ?_
            refine ev_iret dLa_sizeOf_44 rfl rfl ?_
            rw [ht]
            exact hk
        · refine ev_iload dLa_sizeOf_8 rfl ?_
          refine ev_aload_n dLa_sizeOf_10 rfl rfl ?_
          refine ev_get dLa_sizeOf_11 fLa_19 h1 rfl ?_
          refine ev_icmp_ge (tgt := 42) dLa_sizeOf_14 (by decide) (fun c14 => False.elim (absurd c14 (nI_ge (by omega) (by omega)))) (fun c14 => ?_)
          refine ev_lload_n dLa_sizeOf_17 rfl rfl ?_
          refine ev_lconst (v := lN 0) dLa_sizeOf_18 (by decide) ?_
          refine ev_lcmp_le (tgt := 42) dLa_sizeOf_19 dLa_sizeOf_20 (by decide) (fun c19 => False.elim (absurd c19 (lN_pos hx0 (by omega)))) (fun c19 => ?_)
          refine ev_lload_n dLa_sizeOf_23 rfl rfl ?_
          refine ev_aload_n dLa_sizeOf_24 rfl rfl ?_
          refine ev_get dLa_sizeOf_25 fLa_15 h1 rfl ?_
          refine ev_iload dLa_sizeOf_28 rfl ?_
          refine ev_lald dLa_sizeOf_30 h3 rfl rfl (by omega) (by decide) ?_
          refine ev_lsub dLa_sizeOf_31 ?_
          refine ev_topl (y := lN (x - p.2)) (by rw [(hfg j p hp).2, lN_sub hxp]) ?_
          refine ev_lstore_n dLa_sizeOf_32 rfl (by decide) ?_
          refine ev_iinc dLa_sizeOf_33 rfl (ev_inc1 _) (by decide) ?_
          refine ev_iinc dLa_sizeOf_36 rfl (ev_inc1 _) (by decide) ?_
          refine ev_goto (tgt := 8) dLa_sizeOf_39 (by decide) ?_
          refine ih (j + 1) (x - p.2) (t + 1) (by omega) (by omega) ?_
          rcases Nat.lt_or_ge p.2 x with hxq | hxq
          · simp only [sl_tk, if_neg (show ¬ x = 0 by omega), if_pos hxq, List.length_cons] at ht
            omega
          · simp only [sl_tk, if_neg (show ¬ x = 0 by omega), if_neg (show ¬ p.2 < x by omega)] at ht
            rw [show x - p.2 = 0 by omega, sl_tk_0]
            simpa using ht
  refine ev_lload_n dLa_sizeOf_0 rfl rfl ?_
  refine ev_lstore_n dLa_sizeOf_1 rfl (by decide) ?_
  refine ev_iconst (v := nI 0) dLa_sizeOf_2 (by decide) ?_
  refine ev_istore dLa_sizeOf_3 (by decide) ?_
  refine ev_iconst (v := nI 0) dLa_sizeOf_5 (by decide) ?_
  refine ev_istore dLa_sizeOf_6 (by decide) ?_
  exact loop ls.length 0 g0 0 (by omega) hg (by simp)
theorem sl_tk_len (ls : sL) (g : Nat) : (sl_tk ls g).length ≤ ls.length := by
  induction ls generalizing g with
  | nil => simp [sl_tk]
  | cons p t ih =>
    unfold sl_tk
    split
    · simp
    · split
      · simp; exact ih _
      · simp
/-- how many layers there would be -/
def sl_sw (T s : sL) (g : Nat) : Nat := if T ≠ [] ∧ (T.getLast?.map Prod.fst) = (s.head?.map Prod.fst) then T.length + (sl_tk s g).length - 1 else T.length + (sl_tk s g).length
set_option maxRecDepth 20000 in
theorem La_sizeWith_ok {lb ib gb g0 : Nat} {s : sL} (hL : La h la ia ga ls) (hL2 : La h lb ib gb s) (hs : s ≠ []) (hb0 : sl_hb ls) (hb1 : sl_hb s) (hb : sl_gb s) (hg : g0 < 2 ^ 62) (hk : P (some (.int (nI (sl_sw ls s g0)))) h n) : ev_Run G l (d + 1) bc bs mLa_sizeWith 0 [some (.ref la), some (.ref lb), some (.long (lN g0)), none, none] [] h n P := by
  obtain ⟨f, g, h1, h2, h3, hl, hfg⟩ := id hL
  obtain ⟨f2, g2, i1, i2, i3, il, ifg⟩ := id hL2
  obtain ⟨r, hr⟩ : ∃ r, s[0]? = some r := sl_get (by cases s with | nil => exact absurd rfl hs | cons => simp)
  have hrh : s.head?.map Prod.fst = some r.1 := by cases s with | nil => cases hr | cons => cases hr; rfl
  have htl := sl_tk_len s g0
  have hr1 := hb1 r (List.mem_of_getElem? hr)
  rcases sl_last ls with rfl | ⟨T0, q, rfl⟩
  · have e1 : sl_sw [] s g0 = 0 + (sl_tk s g0).length := by simp [sl_sw]
    refine ev_aload_n dLa_sizeWith_0 rfl rfl ?_
    refine ev_get dLa_sizeWith_1 fLa_19 h1 rfl ?_
    refine ev_aload_n dLa_sizeWith_4 rfl rfl ?_
    refine ev_lload_n dLa_sizeWith_5 rfl rfl ?_
    refine cz_La_sizeOf dLa_sizeWith_6 lLa_29 i1 (Nat.le_of_ble_eq_true rfl) (La_sizeOf_ok hL2 hb hg ?_)
    refine ev_iadd dLa_sizeWith_9 ?_
    refine ev_top (nI_add _ _) ?_
    refine ev_istore dLa_sizeWith_10 (by decide) ?_
    refine ev_aload_n dLa_sizeWith_12 rfl rfl ?_
    refine ev_get dLa_sizeWith_13 fLa_19 h1 rfl ?_
    refine ev_if_le (tgt := 44) dLa_sizeWith_16 (by decide) (fun c16 => ?_) (fun c16 => absurd ((show nI 0 ≤ 0 by decide)) c16)
    refine ev_iload dLa_sizeWith_44 rfl ?_
    refine ev_iret dLa_sizeWith_46 rfl rfl ?_
    rw [e1] at hk
    exact hk
  · have hq : (T0 ++ [q])[T0.length]? = some q := by simp
    have hq1 := hb0 q (List.mem_of_getElem? hq)
    have hlen : (T0 ++ [q]).length = T0.length + 1 := by simp
    have hlast : (T0 ++ [q]).getLast?.map Prod.fst = some q.1 := by simp
    rw [hlen] at hl h1
    refine ev_aload_n dLa_sizeWith_0 rfl rfl ?_
    refine ev_get dLa_sizeWith_1 fLa_19 h1 rfl ?_
    refine ev_aload_n dLa_sizeWith_4 rfl rfl ?_
    refine ev_lload_n dLa_sizeWith_5 rfl rfl ?_
    refine cz_La_sizeOf dLa_sizeWith_6 lLa_29 i1 (Nat.le_of_ble_eq_true rfl) (La_sizeOf_ok hL2 hb hg ?_)
    refine ev_iadd dLa_sizeWith_9 ?_
    refine ev_top (nI_add _ _) ?_
    refine ev_istore dLa_sizeWith_10 (by decide) ?_
    refine ev_aload_n dLa_sizeWith_12 rfl rfl ?_
    refine ev_get dLa_sizeWith_13 fLa_19 h1 rfl ?_
    refine ev_if_le (tgt := 44) dLa_sizeWith_16 (by decide) (fun c16 => False.elim (absurd c16 (nI_nle (by omega) (by omega)))) (fun c16 => ?_)
    refine ev_aload_n dLa_sizeWith_19 rfl rfl ?_
    refine ev_aload_n dLa_sizeWith_20 rfl rfl ?_
    refine ev_get dLa_sizeWith_21 fLa_19 h1 rfl ?_
    refine ev_iconst (v := nI 1) dLa_sizeWith_24 (by decide) ?_
    refine ev_isub dLa_sizeWith_25 ?_
    refine ev_top (nI_pred _) ?_
    refine cz_La_haulAt dLa_sizeWith_26 lLa_33 h1 (Nat.le_of_ble_eq_true rfl) (La_haulAt_in hL hq rfl ?_)
    refine ev_aload_n dLa_sizeWith_29 rfl rfl ?_
    refine ev_iconst (v := nI 0) dLa_sizeWith_30 (by decide) ?_
    refine cz_La_haulAt dLa_sizeWith_31 lLa_33 i1 (Nat.le_of_ble_eq_true rfl) (La_haulAt_in hL2 hr rfl ?_)
    refine ev_icmp_ne (tgt := 44) dLa_sizeWith_34 (by decide) (fun c34 => ?_) (fun c34 => ?_)
    · refine ev_iload dLa_sizeWith_44 rfl ?_
      refine ev_iret dLa_sizeWith_46 rfl rfl ?_
      have e2 : sl_sw (T0 ++ [q]) s g0 = T0.length + 1 + (sl_tk s g0).length := (by unfold sl_sw; rw [hlast, hrh, if_neg (fun z => c34 (by rw [Option.some.inj z.2])), hlen])
      rw [← e2]
      exact hk
    · refine ev_iload dLa_sizeWith_37 rfl ?_
      refine ev_iconst (v := nI 1) dLa_sizeWith_39 (by decide) ?_
      refine ev_isub dLa_sizeWith_40 ?_
      refine ev_top (pk_sub (b := 1) (by omega)) ?_
      refine ev_goto (tgt := 46) dLa_sizeWith_41 (by decide) ?_
      refine ev_iret dLa_sizeWith_46 rfl rfl ?_
      have e2 : sl_sw (T0 ++ [q]) s g0 = T0.length + 1 + (sl_tk s g0).length - 1 := (by unfold sl_sw; rw [hlast, hrh, if_pos ⟨by simp, by rw [(nI_eq (by omega) (by omega)).mp c34]⟩, hlen])
      rw [← e2]
      exact hk
end LA2
