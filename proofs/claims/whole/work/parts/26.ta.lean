/-! the k-th of a list of numbers -/
def pick_l (l : List Nat) (x : Int32) : Int32 := if x < 0 then -1 else match l[x.toNatClampNeg]? with
  | some v => nI v
  | none => -1
theorem pick_l_none {l : List Nat} {x : Int32} (h : ∀ m, m < l.length → ¬ x = nI m) : pick_l l x = -1 := by
  unfold pick_l
  by_cases h0 : x < 0
  · exact if_pos h0
  · obtain ⟨j, hj, rfl⟩ := nI_of h0
    rw [if_neg h0, nI_clamp hj, List.getElem?_eq_none]
    exact Nat.le_of_not_lt (fun z => h j z rfl)
theorem pick_l_some {l : List Nat} {m v : Nat} (hm : m < 2 ^ 31) (h : l[m]? = some v) : pick_l l (nI m) = nI v := by
  unfold pick_l
  rw [if_neg (nI_pos hm), nI_clamp hm, h]
theorem rf_get {p : Nat → Bool} : ∀ {N j : Nat}, j < N → p j = true → ((List.range N).filter p)[((List.range j).filter p).length]? = some j := by
  intro N
  induction N with
  | zero => intro j h; omega
  | succ N ih =>
    intro j hj hp
    rw [List.range_succ, List.filter_append]
    rcases Nat.lt_or_ge j N with h | h
    · have h1 := ih h hp
      rw [List.getElem?_append_left (List.getElem?_eq_some_iff.mp h1).1]
      exact h1
    · have : j = N := by omega
      subst this
      rw [List.getElem?_append_right (Nat.le_refl _), Nat.sub_self]
      simp [hp]
theorem rf_len (p : Nat → Bool) (N : Nat) : ((List.range N).filter p).length ≤ N := by
  have := List.length_filter_le p (List.range N)
  simpa using this
theorem rf_succ (p : Nat → Bool) (j : Nat) : ((List.range (j + 1)).filter p).length = ((List.range j).filter p).length + (if p j then 1 else 0) := by
  rw [List.range_succ, List.filter_append]
  by_cases h : p j <;> simp [h]
/-- a tally: how often each number came -/
def Ta (h : xH) (ta tc : Nat) (c : Nat → Nat) : Prop := ∃ f : Nat → Int32, h ta = some (.inr (5, [.ref tc])) ∧ h tc = some (.inl (0, 100, .inl f)) ∧ ∀ k, k < 100 → f k = nI (c k)
section TA
variable {G : xG} {l : Launch} {d bc bs : Nat} {h : xH} {n : Nat} {P : Option Value → xH → Nat → Prop} {ta tc : Nat} {c : Nat → Nat}
theorem Ta.ne (hT : Ta h ta tc c) : ta ≠ tc := by
  obtain ⟨f, h1, h2, -⟩ := hT
  intro e
  rw [e, h2] at h1; cases h1
theorem Ta.obj (hT : Ta h ta tc c) : h ta = some (.inr (5, [.ref tc])) := hT.choose_spec.1
set_option maxRecDepth 20000 in
theorem Ta_clear_ok {f : Nat → Int32} (h1 : h ta = some (.inr (5, [.ref tc]))) (h2 : h tc = some (.inl (0, 100, .inl f))) (hk : ∀ h', Ta h' ta tc (fun _ => 0) → hp_off [tc] h h' → P none h' n) : ev_Run G l d bc bs mTa_clear 0 [some (.ref ta), none] [] h n P := by
  have hne : ta ≠ tc := fun e => by rw [e, h2] at h1; cases h1
  have loop : ∀ e j f' h', j + e = 100 → h' ta = some (.inr (5, [.ref tc])) → h' tc = some (.inl (0, 100, .inl f')) → (∀ k, k < j → f' k = nI 0) → hp_off [tc] h h' → ev_Run G l d bc bs mTa_clear 2 [some (.ref ta), some (.int (nI j))] [] h' n P := by
    intro e
    induction e with
    | zero =>
      intro j f' h' hj i1 i2 hf ho
      refine ev_iload_n dTa_clear_2 rfl rfl ?_
      refine ev_aload_n dTa_clear_3 rfl rfl ?_
      refine ev_get dTa_clear_4 fTa_11 i1 rfl ?_
      refine ev_alen dTa_clear_7 i2 rfl ?_
      refine ev_icmp_ge (tgt := 24) dTa_clear_8 (by decide) (fun c8 => ?_) (fun c8 => absurd (nI_le (show 100 ≤ j by omega) (by omega)) c8)
      refine ev_vret dTa_clear_24 rfl ?_
      exact hk _ ⟨f', i1, i2, fun k hk => hf k (by omega)⟩ ho
    | succ e ih =>
      intro j f' h' hj i1 i2 hf ho
      refine ev_iload_n dTa_clear_2 rfl rfl ?_
      refine ev_aload_n dTa_clear_3 rfl rfl ?_
      refine ev_get dTa_clear_4 fTa_11 i1 rfl ?_
      refine ev_alen dTa_clear_7 i2 rfl ?_
      refine ev_icmp_ge (tgt := 24) dTa_clear_8 (by decide) (fun c8 => False.elim (absurd c8 (nI_ge (b := 100) (by omega) (by decide)))) (fun c8 => ?_)
      refine ev_aload_n dTa_clear_11 rfl rfl ?_
      refine ev_get dTa_clear_12 fTa_11 i1 rfl ?_
      refine ev_iload_n dTa_clear_15 rfl rfl ?_
      refine ev_iconst (v := nI 0) dTa_clear_16 (by decide) ?_
      refine ev_iast dTa_clear_17 i2 rfl rfl (by omega) (by decide) ?_
      refine ev_iinc dTa_clear_18 rfl (ev_inc1 _) (by decide) ?_
      refine ev_goto (tgt := 2) dTa_clear_21 (by decide) ?_
      refine ih (j + 1) (upd f' j (nI 0)) _ (by omega) ((hp_set_ne _ _ hne).trans i1) (hp_set_self _ _ _) (fun k hk => ?_) (ho.set (by simp))
      by_cases hkj : k = j
      · subst hkj; exact pk_us
      · rw [pk_un hkj]; exact hf k (by omega)
  refine ev_iconst (v := nI 0) dTa_clear_0 (by decide) ?_
  refine ev_istore_n dTa_clear_1 rfl (by decide) ?_
  exact loop 100 0 f h (by omega) h1 h2 (fun k hk => absurd hk (by omega)) hp_off.rf
set_option maxRecDepth 20000 in
theorem Ta_count_ok {i : Nat} (hT : Ta h ta tc c) (hi : i < 100) (hk : ∀ h', Ta h' ta tc (fun k => if k = i then c k + 1 else c k) → hp_off [tc] h h' → P none h' n) : ev_Run G l d bc bs mTa_count 0 [some (.ref ta), some (.int (nI i))] [] h n P := by
  have hne := hT.ne
  obtain ⟨f, h1, h2, hf⟩ := hT
  refine ev_iload_n dTa_count_0 rfl rfl ?_
  refine ev_if_lt (tgt := 23) dTa_count_1 (by decide) (fun c1 => False.elim (absurd c1 (nI_pos (by omega)))) (fun c1 => ?_)
  refine ev_iload_n dTa_count_4 rfl rfl ?_
  refine ev_aload_n dTa_count_5 rfl rfl ?_
  refine ev_get dTa_count_6 fTa_11 h1 rfl ?_
  refine ev_alen dTa_count_9 h2 rfl ?_
  refine ev_icmp_ge (tgt := 23) dTa_count_10 (by decide) (fun c10 => False.elim (absurd c10 (nI_ge (b := 100) hi (by decide)))) (fun c10 => ?_)
  refine ev_aload_n dTa_count_13 rfl rfl ?_
  refine ev_get dTa_count_14 fTa_11 h1 rfl ?_
  refine ev_iload_n dTa_count_17 rfl rfl ?_
  refine ev_dup2_11 dTa_count_18 rfl rfl ?_
  refine ev_iald dTa_count_19 h2 rfl rfl (by omega) (by decide) ?_
  refine ev_top (hf i hi) ?_
  refine ev_iconst (v := nI 1) dTa_count_20 (by decide) ?_
  refine ev_iadd dTa_count_21 ?_
  refine ev_top (nI_add _ _) ?_
  refine ev_iast dTa_count_22 h2 rfl rfl (by omega) (by decide) ?_
  refine ev_vret dTa_count_23 rfl ?_
  skip
  refine hk _ ⟨upd f i (nI (c i + 1)), (hp_set_ne _ _ hne).trans h1, hp_set_self _ _ _, fun k hk => ?_⟩ (hp_off.rf.set (by simp))
  by_cases hki : k = i
  · subst hki
    rw [pk_us]; simp
  · rw [pk_un hki, hf k hk]; simp [hki]
set_option maxRecDepth 20000 in
theorem Ta_atLeast_ok {m : Nat} (hT : Ta h ta tc c) (hm : m < 2 ^ 31) (hc : ∀ k, k < 100 → c k < 2 ^ 31) (hk : P (some (.int (nI ((List.range 100).filter (fun k => decide (m ≤ c k))).length))) h n) : ev_Run G l d bc bs mTa_countedAtLeast 0 [some (.ref ta), some (.int (nI m)), none, none] [] h n P := by
  obtain ⟨f, h1, h2, hf⟩ := hT
  have loop : ∀ e j, j + e = 100 → ev_Run G l d bc bs mTa_countedAtLeast 4 [some (.ref ta), some (.int (nI m)), some (.int (nI ((List.range j).filter (fun k => decide (m ≤ c k))).length)), some (.int (nI j))] [] h n P := by
    intro e
    induction e with
    | zero =>
      intro j hj
      have : j = 100 := by omega
      subst this
      refine ev_iload_n dTa_countedAtLeast_4 rfl rfl ?_
      refine ev_aload_n dTa_countedAtLeast_5 rfl rfl ?_
      refine ev_get dTa_countedAtLeast_6 fTa_11 h1 rfl ?_
      refine ev_alen dTa_countedAtLeast_9 h2 rfl ?_
      refine ev_icmp_ge (tgt := 32) dTa_countedAtLeast_10 (by decide) (fun c10 => ?_) (fun c10 => absurd (nI_le (show 100 ≤ 100 by omega) (by decide)) c10)
      refine ev_iload_n dTa_countedAtLeast_32 rfl rfl ?_
      refine ev_iret dTa_countedAtLeast_33 rfl rfl ?_
      exact hk
    | succ e ih =>
      intro j hj
      have hi := ih (j + 1) (by omega)
      rw [rf_succ] at hi
      have hcj := hc j (by omega)
      refine ev_iload_n dTa_countedAtLeast_4 rfl rfl ?_
      refine ev_aload_n dTa_countedAtLeast_5 rfl rfl ?_
      refine ev_get dTa_countedAtLeast_6 fTa_11 h1 rfl ?_
      refine ev_alen dTa_countedAtLeast_9 h2 rfl ?_
      refine ev_icmp_ge (tgt := 32) dTa_countedAtLeast_10 (by decide) (fun c10 => False.elim (absurd c10 (nI_ge (b := 100) (by omega) (by decide)))) (fun c10 => ?_)
      refine ev_aload_n dTa_countedAtLeast_13 rfl rfl ?_
      refine ev_get dTa_countedAtLeast_14 fTa_11 h1 rfl ?_
      refine ev_iload_n dTa_countedAtLeast_17 rfl rfl ?_
      refine ev_iald dTa_countedAtLeast_18 h2 rfl rfl (by omega) (by decide) ?_
      refine ev_top (hf j (by omega)) ?_
      refine ev_iload_n dTa_countedAtLeast_19 rfl rfl ?_
      refine ev_icmp_lt (tgt := 26) dTa_countedAtLeast_20 (by decide) (fun c20 => ?_) (fun c20 => ?_)
      · rw [nI_ltI hcj hm] at c20
        rw [if_neg (by simp; omega)] at hi
        refine ev_iinc dTa_countedAtLeast_26 rfl (ev_inc1 _) (by decide) ?_
        refine ev_goto (tgt := 4) dTa_countedAtLeast_29 (by decide) ?_
        exact hi
      · rw [nI_ltI hcj hm] at c20
        rw [if_pos (by simp; omega)] at hi
        refine ev_iinc dTa_countedAtLeast_23 rfl (ev_inc1 _) (by decide) ?_
        refine ev_iinc dTa_countedAtLeast_26 rfl (ev_inc1 _) (by decide) ?_
        refine ev_goto (tgt := 4) dTa_countedAtLeast_29 (by decide) ?_
        exact hi
  refine ev_iconst (v := nI 0) dTa_countedAtLeast_0 (by decide) ?_
  refine ev_istore_n dTa_countedAtLeast_1 rfl (by decide) ?_
  refine ev_iconst (v := nI 0) dTa_countedAtLeast_2 (by decide) ?_
  refine ev_istore_n dTa_countedAtLeast_3 rfl (by decide) ?_
  exact loop 100 0 (by omega)
set_option maxRecDepth 20000 in
theorem Ta_pick_ok {x : Int32} (hT : Ta h ta tc c) (hc : ∀ k, k < 100 → c k < 2 ^ 31) (hk : P (some (.int (pick_l ((List.range 100).filter (fun k => decide (0 < c k))) x))) h n) : ev_Run G l d bc bs mTa_pick 0 [some (.ref ta), some (.int x), none, none] [] h n P := by
  obtain ⟨f, h1, h2, hf⟩ := hT
  have loop : ∀ e j, j + e = 100 → (∀ m, m < ((List.range j).filter (fun k => decide (0 < c k))).length → ¬ x = nI m) → ev_Run G l d bc bs mTa_pick 4 [some (.ref ta), some (.int x), some (.int (nI ((List.range j).filter (fun k => decide (0 < c k))).length)), some (.int (nI j))] [] h n P := by
    intro e
    induction e with
    | zero =>
      intro j hj hx
      have : j = 100 := by omega
      subst this
      refine ev_iload_n dTa_pick_4 rfl rfl ?_
      refine ev_aload_n dTa_pick_5 rfl rfl ?_
      refine ev_get dTa_pick_6 fTa_11 h1 rfl ?_
      refine ev_alen dTa_pick_9 h2 rfl ?_
      refine ev_icmp_ge (tgt := 38) dTa_pick_10 (by decide) (fun c10 => ?_) (fun c10 => absurd (nI_le (show 100 ≤ 100 by omega) (by decide)) c10)
      refine ev_iconst (v := -1) dTa_pick_38 (by decide) ?_
      refine ev_iret dTa_pick_39 rfl rfl ?_
      rw [pick_l_none hx] at hk
      exact hk
    | succ e ih =>
      intro j hj hx
      have hi := ih (j + 1) (by omega)
      rw [rf_succ] at hi
      have hcj := hc j (by omega)
      have hle := rf_len (fun k => decide (0 < c k)) j
      refine ev_iload_n dTa_pick_4 rfl rfl ?_
      refine ev_aload_n dTa_pick_5 rfl rfl ?_
      refine ev_get dTa_pick_6 fTa_11 h1 rfl ?_
      refine ev_alen dTa_pick_9 h2 rfl ?_
      refine ev_icmp_ge (tgt := 38) dTa_pick_10 (by decide) (fun c10 => False.elim (absurd c10 (nI_ge (b := 100) (by omega) (by decide)))) (fun c10 => ?_)
      refine ev_aload_n dTa_pick_13 rfl rfl ?_
      refine ev_get dTa_pick_14 fTa_11 h1 rfl ?_
      refine ev_iload_n dTa_pick_17 rfl rfl ?_
      refine ev_iald dTa_pick_18 h2 rfl rfl (by omega) (by decide) ?_
      refine ev_top (hf j (by omega)) ?_
      refine ev_if_le (tgt := 32) dTa_pick_19 (by decide) (fun c19 => ?_) (fun c19 => ?_)
      · have c19 : ¬ 0 < c j := (fun z => nI_nle z hcj c19)
        rw [if_neg (by simpa using c19), Nat.add_zero] at hi
        refine ev_iinc dTa_pick_32 rfl (ev_inc1 _) (by decide) ?_
        refine ev_goto (tgt := 4) dTa_pick_35 (by decide) ?_
        exact hi hx
      · have c19 : 0 < c j := (by rcases Nat.eq_zero_or_pos (c j) with q | q; exact absurd (by rw [q]; decide) c19; exact q)
        rw [if_pos (by simpa using c19)] at hi
        refine ev_iload_n dTa_pick_22 rfl rfl ?_
        refine ev_iload_n dTa_pick_23 rfl rfl ?_
        refine ev_icmp_ne (tgt := 29) dTa_pick_24 (by decide) (fun c24 => ?_) (fun c24 => ?_)
        · refine ev_iinc dTa_pick_29 rfl (ev_inc1 _) (by decide) ?_
          refine ev_iinc dTa_pick_32 rfl (ev_inc1 _) (by decide) ?_
          refine ev_goto (tgt := 4) dTa_pick_35 (by decide) ?_
          refine hi (fun m hm => ?_)
          rcases Nat.lt_or_ge m ((List.range j).filter (fun k => decide (0 < c k))).length with q | q
          · exact hx m q
          · exact fun z => c24 (by rw [z, show m = ((List.range j).filter (fun k => decide (0 < c k))).length by omega])
        · refine ev_iload_n dTa_pick_27 rfl rfl ?_
          refine ev_iret dTa_pick_28 rfl rfl ?_
          rw [← c24, pick_l_some (by omega) (rf_get (by omega) (by simpa using c19))] at hk
          exact hk
  refine ev_iconst (v := nI 0) dTa_pick_0 (by decide) ?_
  refine ev_istore_n dTa_pick_1 rfl (by decide) ?_
  refine ev_iconst (v := nI 0) dTa_pick_2 (by decide) ?_
  refine ev_istore_n dTa_pick_3 rfl (by decide) ?_
  exact loop 100 0 (by omega) (fun m hm => absurd hm (by simp))
end TA
