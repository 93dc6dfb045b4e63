/-! the reference: the text of names -/
section MN1
variable {ys : List Int32}
theorem nru_chain2 {full : Bool} {a0 a1 a2 a3 a4 a5 a6 a7 a8 : Nat} {v1 v2 v3 v4 v5 v6 v7 v8 w1 w2 w3 w4 : Int32} (hl : ys.length ≤ 400) (b0 : a0 ≤ ys.length) (b1 : v1 = -1 → a1 ≤ ys.length) (b2 : v2 = -1 → a2 ≤ ys.length) (b3 : v3 = -1 → a3 ≤ ys.length) (b4 : v4 = -1 → a4 ≤ ys.length) (b5 : v5 = -1 → a5 ≤ ys.length) (b6 : v6 = -1 → a6 ≤ ys.length) (b7 : v7 = -1 → a7 ≤ ys.length)
    (r1 : num_r ys (nI 0) (if full then -1 else nI 99) a0 a1 (-1) v1 w1) (r2 : sgn_r ys (nI 58) a1 a2 v1 v2) (r3 : num_r ys (nI 0) (nI 999) a2 a3 v2 v3 w2) (r4 : sgn_r ys (nI 45) a3 a4 v3 v4) (r5 : num_r ys w2 (nI 999) a4 a5 v4 v5 w3) (r6 : sgn_r ys (nI 44) a5 a6 v5 v6) (r7 : num_r ys (nI 0) (nI 999999) a6 a7 v6 v7 w4) (r8 : sgn_r ys (nI 59) a7 a8 v7 v8) :
    match nru ys full a0 with | .inl e => v8 = nI e ∧ e ≤ 400 | .inr p => v8 = -1 ∧ p = ((w1, w2, w3, w4), a8) := by
  have no : ∀ e x : Nat, e ≤ ys.length → ¬ nI e = -1 := fun e _ he => nI_ne1 (by omega)
  have t1 := nnu_bd (ys := ys) (lo := nI 0) (hi := if full then -1 else nI 99) (by omega) b0
  have s1 := r1.1 rfl
  unfold nru
  cases h1 : nnu ys (nI 0) (if full then -1 else nI 99) a0 with
  | inl e =>
    rw [h1] at s1 t1; simp only [] at s1 t1; subst s1
    have z := no e 0 t1
    have e2 := r2.2 z; subst e2; have e3 := r3.2 z; subst e3; have e4 := r4.2 z; subst e4; have e5 := r5.2 z; subst e5; have e6 := r6.2 z; subst e6; have e7 := r7.2 z; subst e7
    exact ⟨r8.2 z, by omega⟩
  | inr p =>
    rw [h1] at s1 t1; simp only [] at s1 t1; obtain ⟨rfl, rfl, rfl⟩ := s1
    have t2 := nsg_bd (ys := ys) (c := nI 58) (by decide) (by omega) (b1 rfl)
    have s2 := r2.1 rfl
    simp only [sb]
    cases h2 : nsg ys (nI 58) p.2 with
    | inl e =>
      rw [h2] at s2 t2; simp only [] at s2 t2; subst s2
      have z := no e 0 t2
      have e3 := r3.2 z; subst e3; have e4 := r4.2 z; subst e4; have e5 := r5.2 z; subst e5; have e6 := r6.2 z; subst e6; have e7 := r7.2 z; subst e7
      exact ⟨r8.2 z, by omega⟩
    | inr p2 =>
      rw [h2] at s2 t2; simp only [] at s2 t2; obtain ⟨rfl, rfl⟩ := s2
      have t3 := nnu_bd (ys := ys) (lo := nI 0) (hi := nI 999) (by omega) (b2 rfl)
      have s3 := r3.1 rfl
      simp only []
      cases h3 : nnu ys (nI 0) (nI 999) a2 with
      | inl e =>
        rw [h3] at s3 t3; simp only [] at s3 t3; subst s3
        have z := no e 0 t3
        have e4 := r4.2 z; subst e4; have e5 := r5.2 z; subst e5; have e6 := r6.2 z; subst e6; have e7 := r7.2 z; subst e7
        exact ⟨r8.2 z, by omega⟩
      | inr q =>
        rw [h3] at s3 t3; simp only [] at s3 t3; obtain ⟨rfl, rfl, rfl⟩ := s3
        have t4 := nsg_bd (ys := ys) (c := nI 45) (by decide) (by omega) (b3 rfl)
        have s4 := r4.1 rfl
        simp only []
        cases h4 : nsg ys (nI 45) q.2 with
        | inl e =>
          rw [h4] at s4 t4; simp only [] at s4 t4; subst s4
          have z := no e 0 t4
          have e5 := r5.2 z; subst e5; have e6 := r6.2 z; subst e6; have e7 := r7.2 z; subst e7
          exact ⟨r8.2 z, by omega⟩
        | inr p4 =>
          rw [h4] at s4 t4; simp only [] at s4 t4; obtain ⟨rfl, rfl⟩ := s4
          have t5 := nnu_bd (ys := ys) (lo := q.1) (hi := nI 999) (by omega) (b4 rfl)
          have s5 := r5.1 rfl
          simp only []
          cases h5 : nnu ys q.1 (nI 999) a4 with
          | inl e =>
            rw [h5] at s5 t5; simp only [] at s5 t5; subst s5
            have z := no e 0 t5
            have e6 := r6.2 z; subst e6; have e7 := r7.2 z; subst e7
            exact ⟨r8.2 z, by omega⟩
          | inr r =>
            rw [h5] at s5 t5; simp only [] at s5 t5; obtain ⟨rfl, rfl, rfl⟩ := s5
            have t6 := nsg_bd (ys := ys) (c := nI 44) (by decide) (by omega) (b5 rfl)
            have s6 := r6.1 rfl
            simp only []
            cases h6 : nsg ys (nI 44) r.2 with
            | inl e =>
              rw [h6] at s6 t6; simp only [] at s6 t6; subst s6
              have z := no e 0 t6
              have e7 := r7.2 z; subst e7
              exact ⟨r8.2 z, by omega⟩
            | inr p6 =>
              rw [h6] at s6 t6; simp only [] at s6 t6; obtain ⟨rfl, rfl⟩ := s6
              have t7 := nnu_bd (ys := ys) (lo := nI 0) (hi := nI 999999) (by omega) (b6 rfl)
              have s7 := r7.1 rfl
              simp only []
              cases h7 : nnu ys (nI 0) (nI 999999) a6 with
              | inl e =>
                rw [h7] at s7 t7; simp only [] at s7 t7; subst s7
                exact ⟨r8.2 (no e 0 t7), by omega⟩
              | inr s =>
                rw [h7] at s7 t7; simp only [] at s7 t7; obtain ⟨rfl, rfl, rfl⟩ := s7
                have t8 := nsg_bd (ys := ys) (c := nI 59) (by decide) (by omega) (b7 rfl)
                have s8 := r8.1 rfl
                simp only []
                cases h8 : nsg ys (nI 59) s.2 with
                | inl e => rw [h8] at s8 t8; simp only [] at s8 t8; exact ⟨s8, by omega⟩
                | inr p8 => rw [h8] at s8 t8; simp only [] at s8 t8; exact ⟨s8.1, by rw [s8.2]⟩
theorem dig_v {x : Int32} (h : dig x) : ∃ k, k ≤ 9 ∧ x = nI (48 + k) := by
  obtain ⟨h1, h2⟩ := h
  have h0 : ¬ x < 0 := by
    rw [Int32.le_iff_toInt_le] at h1; rw [Int32.lt_iff_toInt_lt]
    rw [nI_toInt (by decide)] at h1
    show ¬ x.toInt < 0
    omega
  obtain ⟨j, hj, rfl⟩ := nI_of h0
  rw [nI_leI (by decide) hj] at h1
  rw [nI_leI hj (by decide)] at h2
  exact ⟨j - 48, by omega, by congr 1; omega⟩
theorem dgc_bd : ∀ k a m, m < 10 ^ (6 - k) → k ≤ 6 → ∃ m', m' < 1000000 ∧ (dgc ys k a (nI m)).1 = nI m' := by
  intro k
  induction k with
  | zero => intro a m hm _; exact ⟨m, hm, rfl⟩
  | succ k ih =>
    intro a m hm hk
    unfold dgc
    by_cases hd : dig (by_at ys (nI a))
    · rw [if_pos hd]
      obtain ⟨q, hq, hx⟩ := dig_v hd
      have e1 : nI m * nI 10 + by_at ys (nI a) - nI 48 = nI (m * 10 + q) := by
        rw [hx, nI_mul, nI_add, pk_sub (by omega)]
        congr 1; omega
      rw [e1]
      refine ih (a + 1) (m * 10 + q) ?_ (by omega)
      have : 10 ^ (6 - k) = 10 ^ (6 - (k + 1)) * 10 := by rw [← Nat.pow_succ]; congr 1; omega
      rw [this]; omega
    · rw [if_neg hd]
      refine ⟨m, ?_, rfl⟩
      have : 10 ^ (6 - (k + 1)) ≤ 10 ^ 6 := Nat.pow_le_pow_right (by decide) (by omega)
      omega
theorem nnu_full {a : Nat} : nnu ys (nI 1000000) (nI 1000000) a = nnu ys (nI 0) (-1) a := by
  obtain ⟨m, hm, he⟩ := dgc_bd (ys := ys) 6 (skp ys a) 0 (by decide) (by omega)
  have he : (dgc ys 6 (skp ys a) 0).1 = nI m := he
  unfold nnu
  rw [he, if_pos (show nI m < nI 1000000 ∨ nI 1000000 < nI m from Or.inl ((nI_ltI (by omega) (by decide)).mpr hm)), if_pos (show nI m < nI 0 ∨ -1 < nI m from Or.inr ?_)]
  rw [Int32.lt_iff_toInt_lt, nI_toInt (by omega)]
  show (-1 : Int) < m
  omega
end MN1
