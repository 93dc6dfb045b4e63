/-! a row of bytes -/
def By (h : xH) (b r N : Nat) (bs : List Int32) : Prop := ∃ f : Nat → Int32, h b = some (.inr (0, [.ref r, .int (nI bs.length)])) ∧ h r = some (.inl (0, N, .inl f)) ∧ bs.length ≤ N ∧ N < 2000 ∧ ∀ k v, bs[k]? = some v → f k = v
def by_at (bs : List Int32) (x : Int32) : Int32 := if x < 0 then -1 else match bs[x.toNatClampNeg]? with
  | some v => v
  | none => -1
theorem by_at_in {bs : List Int32} {j : Nat} {v : Int32} (hj : j < 2 ^ 31) (h : bs[j]? = some v) : by_at bs (nI j) = v := by
  unfold by_at; rw [if_neg (nI_pos hj), nI_clamp hj, h]
theorem by_at_out {bs : List Int32} {x : Int32} (hl : bs.length < 2 ^ 31) (h : x < 0 ∨ nI bs.length ≤ x) : by_at bs x = -1 := by
  unfold by_at
  by_cases h0 : x < 0
  · exact if_pos h0
  · rw [if_neg h0]
    obtain ⟨j, hj, rfl⟩ := nI_of h0
    rcases h with h | h
    · exact absurd h h0
    · rw [nI_leI hl hj] at h
      rw [nI_clamp hj, List.getElem?_eq_none h]
/-- how many digits -/
def ndg : Nat → Nat → Nat
  | 0, _ => 1
  | k + 1, v => if v < 10 then 1 else ndg k (v / 10) + 1
def dgs (n v : Nat) : List Int32 := (List.range n).map (fun i => nI (48 + v / 10 ^ (n - 1 - i) % 10))
theorem ndg_spec : ∀ (k v : Nat), v < 10 ^ (k + 1) → v < 10 ^ (ndg k v) ∧ 1 ≤ ndg k v ∧ ndg k v ≤ k + 1 ∧ (1 < ndg k v → 10 ^ (ndg k v - 1) ≤ v) := by
  intro k
  induction k with
  | zero => intro v h; simp [ndg] at h ⊢; exact h
  | succ k ih =>
    intro v h
    unfold ndg
    by_cases h9 : v < 10
    · rw [if_pos h9]; refine ⟨by simpa using h9, by omega, by omega, fun z => absurd z (by omega)⟩
    · rw [if_neg h9]
      have h1 : v / 10 < 10 ^ (k + 1) := by rw [Nat.pow_succ] at h; omega
      obtain ⟨a, b, c, e⟩ := ih (v / 10) h1
      refine ⟨by rw [Nat.pow_succ]; omega, by omega, by omega, fun _ => ?_⟩
      rw [Nat.add_sub_cancel]
      rcases Nat.lt_or_ge 1 (ndg k (v / 10)) with q | q
      · have := e q
        have h2 : 10 ^ (ndg k (v / 10)) = 10 ^ (ndg k (v / 10) - 1) * 10 := by rw [← Nat.pow_succ]; congr 1; omega
        rw [h2]; omega
      · have : ndg k (v / 10) = 1 := by omega
        rw [this]; omega
/-- the number of digits of a number up to ten digits -/
theorem ndg_eq {v n : Nat} (hv : v < 10 ^ 18) (h1 : v < 10 ^ n) (hn : 1 ≤ n) (h2 : 1 < n → 10 ^ (n - 1) ≤ v) : ndg 17 v = n := by
  obtain ⟨a, b, c, e⟩ := ndg_spec 17 v hv
  rcases Nat.lt_trichotomy (ndg 17 v) n with q | q | q
  · have h3 := h2 (by omega)
    have : 10 ^ (ndg 17 v) ≤ 10 ^ (n - 1) := Nat.pow_le_pow_right (by decide) (by omega)
    omega
  · exact q
  · have h3 := e (by omega)
    have : 10 ^ n ≤ 10 ^ (ndg 17 v - 1) := Nat.pow_le_pow_right (by decide) (by omega)
    omega
section BY
variable {G : xG} {l : Launch} {d bc bs : Nat} {h : xH} {n : Nat} {P : Option Value → xH → Nat → Prop} {b r N : Nat} {ys : List Int32}
theorem By.obj (hB : By h b r N ys) : h b = some (.inr (0, [.ref r, .int (nI ys.length)])) := hB.choose_spec.1
theorem By.ne (hB : By h b r N ys) : b ≠ r := by
  obtain ⟨f, h1, h2, -⟩ := hB
  intro e; rw [e, h2] at h1; cases h1
theorem By.keep {h' : xH} {S : List Nat} (hB : By h b r N ys) (ho : hp_off S h h') (h1 : b ∉ S) (h2 : r ∉ S) : By h' b r N ys := by
  obtain ⟨f, q1, q2, q3⟩ := hB
  exact ⟨f, (ho _ h1).trans q1, (ho _ h2).trans q2, q3⟩
set_option maxRecDepth 20000 in
theorem By_size_ok (hB : By h b r N ys) (hk : P (some (.int (nI ys.length))) h n) : ev_Run G l d bc bs mBy_size 0 [some (.ref b)] [] h n P := by
  have h0 := hB.obj
  refine ev_aload_n dBy_size_0 rfl rfl ?_
  refine ev_get dBy_size_1 fBy_21 h0 rfl ?_
  refine ev_iret dBy_size_4 rfl rfl ?_
  exact hk
set_option maxRecDepth 20000 in
theorem By_clear_ok (hB : By h b r N ys) (hk : ∀ h', By h' b r N [] → hp_off [b, r] h h' → P none h' n) : ev_Run G l d bc bs mBy_clear 0 [some (.ref b)] [] h n P := by
  have hne := hB.ne
  obtain ⟨f, h1, h2, h3, h4, h5⟩ := hB
  refine ev_aload_n dBy_clear_0 rfl rfl ?_
  refine ev_iconst (v := nI 0) dBy_clear_1 (by decide) ?_
  refine ev_put dBy_clear_2 fBy_21 tBy_1 h1 rfl rfl (Nat.le_of_ble_eq_true rfl) ?_
  refine ev_vret dBy_clear_5 rfl ?_
  exact hk _ ⟨f, (hp_set_self _ _ _).trans rfl, (hp_set_ne _ _ (Ne.symm hne)).trans h2, by simp, h4, fun k v hk => by simp at hk⟩ (hp_off.rf.set (by simp))
set_option maxRecDepth 20000 in
theorem By_byteAt_ok {x : Int32} (hB : By h b r N ys) (hk : P (some (.int (by_at ys x))) h n) : ev_Run G l d bc bs mBy_byteAt 0 [some (.ref b), some (.int x)] [] h n P := by
  obtain ⟨f, h1, h2, h3, h4, h5⟩ := hB
  refine ev_iload_n dBy_byteAt_0 rfl rfl ?_
  refine ev_if_lt (tgt := 21) dBy_byteAt_1 (by decide) (fun c1 => ?_) (fun c1 => ?_)
  · refine ev_iconst (v := -1) dBy_byteAt_21 (by decide) ?_
    refine ev_iret dBy_byteAt_22 rfl rfl ?_
    rw [by_at_out (by omega) (Or.inl c1)] at hk
    exact hk
  · refine ev_iload_n dBy_byteAt_4 rfl rfl ?_
    refine ev_aload_n dBy_byteAt_5 rfl rfl ?_
    refine ev_get dBy_byteAt_6 fBy_21 h1 rfl ?_
    refine ev_icmp_ge (tgt := 21) dBy_byteAt_9 (by decide) (fun c9 => ?_) (fun c9 => ?_)
    · refine ev_iconst (v := -1) dBy_byteAt_21 (by decide) ?_
      refine ev_iret dBy_byteAt_22 rfl rfl ?_
      rw [by_at_out (by omega) (Or.inr c9)] at hk
      exact hk
    · refine ev_aload_n dBy_byteAt_12 rfl rfl ?_
      refine ev_get dBy_byteAt_13 fBy_15 h1 rfl ?_
      refine ev_iload_n dBy_byteAt_16 rfl rfl ?_
      obtain ⟨j, hj, rfl⟩ := ix_in (by omega) c1 c9
      refine ev_iald dBy_byteAt_17 h2 rfl rfl (by omega) (by omega) ?_
      refine ev_goto (tgt := 22) dBy_byteAt_18 (by decide) ?_
      refine ev_iret dBy_byteAt_22 rfl rfl ?_
      rw [by_at_in (by omega) (List.getElem?_eq_getElem hj), ← h5 j _ (List.getElem?_eq_getElem hj)] at hk
      exact hk
set_option maxRecDepth 20000 in
theorem By_put_ok {v : Int32} (hB : By h b r N ys) (ht : ys.length < N → ∀ h', By h' b r N (ys ++ [v]) → hp_off [b, r] h h' → P (some (.int (nI 1))) h' n) (hf : ys.length = N → P (some (.int (nI 0))) h n) : ev_Run G l d bc bs mBy_put 0 [some (.ref b), some (.int v)] [] h n P := by
  have hne := hB.ne
  obtain ⟨f, h1, h2, h3, h4, h5⟩ := hB
  refine ev_aload_n dBy_put_0 rfl rfl ?_
  refine ev_get dBy_put_1 fBy_21 h1 rfl ?_
  refine ev_aload_n dBy_put_4 rfl rfl ?_
  refine ev_get dBy_put_5 fBy_15 h1 rfl ?_
  refine ev_alen dBy_put_8 h2 rfl ?_
  refine ev_icmp_lt (tgt := 14) dBy_put_9 (by decide) (fun c9 => ?_) (fun c9 => ?_)
  · have hc : nI ys.length < nI N := c9
    rw [nI_ltI (by omega) (by omega)] at hc
    refine ev_aload_n dBy_put_14 rfl rfl ?_
    refine ev_get dBy_put_15 fBy_15 h1 rfl ?_
    refine ev_aload_n dBy_put_18 rfl rfl ?_
    refine ev_get dBy_put_19 fBy_21 h1 rfl ?_
    refine ev_iload_n dBy_put_22 rfl rfl ?_
    refine ev_iast dBy_put_23 h2 rfl rfl hc (by omega) ?_
    refine ev_aload_n dBy_put_24 rfl rfl ?_
    refine ev_dup dBy_put_25 rfl ?_
    refine ev_get dBy_put_26 fBy_21 ((hp_set_ne _ _ hne).trans h1) rfl ?_
    refine ev_iconst (v := nI 1) dBy_put_29 (by decide) ?_
    refine ev_iadd dBy_put_30 ?_
    refine ev_top (nI_add _ _) ?_
    refine ev_put dBy_put_31 fBy_21 tBy_1 ((hp_set_ne _ _ hne).trans h1) rfl rfl (Nat.le_of_ble_eq_true rfl) ?_
    refine ev_iconst (v := nI 1) dBy_put_34 (by decide) ?_
    refine ev_iret dBy_put_35 rfl rfl ?_
    refine ht hc _ ⟨upd f ys.length v, (hp_set_self _ _ _).trans (by simp), (hp_set_ne _ _ (Ne.symm hne)).trans (hp_set_self _ _ _), by simp; omega, h4, fun k w hk => ?_⟩ ((hp_off.rf.set (by simp)).set (by simp))
    rcases Nat.lt_or_ge k ys.length with q | q
    · rw [List.getElem?_append_left q] at hk; rw [pk_un (by omega)]; exact h5 k w hk
    · have hk1 := (List.getElem?_eq_some_iff.mp hk).1; have : k = ys.length := (by simp at hk1; omega); subst this; simp at hk; subst hk; exact pk_us
  · have hc : ¬ nI ys.length < nI N := c9
    rw [nI_ltI (by omega) (by omega)] at hc
    refine ev_iconst (v := nI 0) dBy_put_12 (by decide) ?_
    refine ev_iret dBy_put_13 rfl rfl ?_
    exact hf (by omega)
end BY
