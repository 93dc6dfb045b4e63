/-! the reader of names: pure words -/
abbrev blk (v : Int32) : Prop := v = nI 9 ∨ v = nI 10 ∨ v = nI 13 ∨ v = nI 32
abbrev dig (v : Int32) : Prop := nI 48 ≤ v ∧ v ≤ nI 57
def skp (ys : List Int32) (a : Nat) : Nat := a + ((ys.drop a).takeWhile (fun v => decide (blk v))).length
theorem by_at_n {ys : List Int32} {a : Nat} (ha : a < 2 ^ 31) : by_at ys (nI a) = match ys[a]? with | some v => v | none => -1 := by
  unfold by_at; rw [if_neg (nI_pos ha), nI_clamp ha]; cases ys[a]? <;> rfl
theorem by_at_lt {ys : List Int32} {a : Nat} (ha : a < 2 ^ 31) (h : ¬ by_at ys (nI a) = -1) : ys[a]? = some (by_at ys (nI a)) ∧ a < ys.length := by
  rw [by_at_n ha] at h ⊢
  cases hq : ys[a]? with
  | none => rw [hq] at h; exact absurd rfl h
  | some v => exact ⟨rfl, (List.getElem?_eq_some_iff.mp hq).1⟩
theorem blk_ne {v : Int32} (h : blk v) : ¬ v = -1 := by
  rintro rfl; revert h; decide
theorem dig_ne {v : Int32} (h : dig v) : ¬ v = -1 := by
  rintro rfl; revert h; decide
theorem skp_t {ys : List Int32} {a : Nat} (ha : a < 2 ^ 31) (h : blk (by_at ys (nI a))) : skp ys a = skp ys (a + 1) ∧ a < ys.length := by
  obtain ⟨h1, h2⟩ := by_at_lt ha (blk_ne h)
  refine ⟨?_, h2⟩
  unfold skp
  have h3 : ys.drop a = by_at ys (nI a) :: ys.drop (a + 1) := by
    rw [List.drop_eq_getElem_cons h2]
    rw [List.getElem?_eq_getElem h2] at h1
    rw [Option.some.inj h1]
  rw [h3, List.takeWhile_cons_of_pos (by simpa using h)]
  simp; omega
theorem skp_f {ys : List Int32} {a : Nat} (ha : a < 2 ^ 31) (h : ¬ blk (by_at ys (nI a))) : skp ys a = a := by
  unfold skp
  rcases Nat.lt_or_ge a ys.length with q | q
  · rw [by_at_n ha, List.getElem?_eq_getElem q] at h
    rw [List.drop_eq_getElem_cons q, List.takeWhile_cons_of_neg (by simpa using h)]; rfl
  · rw [List.drop_of_length_le q]; rfl
theorem skp_le {ys : List Int32} {a : Nat} (ha : a ≤ ys.length) : skp ys a ≤ ys.length := by
  unfold skp
  have := (List.takeWhile_sublist (fun v => decide (blk v)) (l := ys.drop a)).length_le
  rw [List.length_drop] at this; omega
def dgc (ys : List Int32) : Nat → Nat → Int32 → Int32 × Nat
  | 0, a, v => (v, a)
  | k + 1, a, v => if dig (by_at ys (nI a)) then dgc ys k (a + 1) (v * nI 10 + by_at ys (nI a) - nI 48) else (v, a)
theorem dgc_le {ys : List Int32} (hl : ys.length < 2 ^ 31) : ∀ k a v, a ≤ ys.length → (dgc ys k a v).2 ≤ ys.length := by
  intro k
  induction k with
  | zero => intro a v h; exact h
  | succ k ih =>
    intro a v h
    unfold dgc
    split
    · rename_i hd
      exact ih _ _ (by have := (by_at_lt (ys := ys) (a := a) (by omega) (dig_ne hd)).2; omega)
    · exact h
def nnu (ys : List Int32) (lo hi : Int32) (a : Nat) : Nat ⊕ (Int32 × Nat) := if (dgc ys 6 (skp ys a) 0).2 = skp ys a ∨ dig (by_at ys (nI (dgc ys 6 (skp ys a) 0).2)) then .inl (dgc ys 6 (skp ys a) 0).2 else if (dgc ys 6 (skp ys a) 0).1 < lo ∨ hi < (dgc ys 6 (skp ys a) 0).1 then .inl (skp ys a) else .inr (dgc ys 6 (skp ys a) 0)
def nsg (ys : List Int32) (c : Int32) (a : Nat) : Nat ⊕ Nat := if by_at ys (nI (skp ys a)) = c then .inr (skp ys a + 1) else .inl (skp ys a)
theorem nnu_bd {ys : List Int32} {lo hi : Int32} {a : Nat} (hl : ys.length < 2 ^ 31) (ha : a ≤ ys.length) : match nnu ys lo hi a with | .inl e => e ≤ ys.length | .inr p => p.2 ≤ ys.length := by
  have h1 := skp_le ha
  have h2 := dgc_le hl 6 (skp ys a) 0 h1
  unfold nnu
  by_cases c1 : (dgc ys 6 (skp ys a) 0).2 = skp ys a ∨ dig (by_at ys (nI (dgc ys 6 (skp ys a) 0).2))
  · rw [if_pos c1]; exact h2
  · rw [if_neg c1]
    by_cases c2 : (dgc ys 6 (skp ys a) 0).1 < lo ∨ hi < (dgc ys 6 (skp ys a) 0).1
    · rw [if_pos c2]; exact h1
    · rw [if_neg c2]; exact h2
theorem nsg_bd {ys : List Int32} {c : Int32} {a : Nat} (hc : ¬ c = -1) (hl : ys.length < 2 ^ 31) (ha : a ≤ ys.length) : match nsg ys c a with | .inl e => e ≤ ys.length | .inr p => p ≤ ys.length := by
  have h1 := skp_le ha
  unfold nsg
  by_cases c1 : by_at ys (nI (skp ys a)) = c
  · rw [if_pos c1]; exact (by_at_lt (ys := ys) (a := skp ys a) (by omega) (by rw [c1]; exact hc)).2
  · rw [if_neg c1]; exact h1
abbrev Na_c (ad : Nat → Nat) (a : Nat) (v : Int32) : xE := .inr (3, [.ref (ad 6), .int (nI a), .int v])
section NA
variable {G : xG} {l : Launch} {d bc bs : Nat} {h : xH} {n : Nat} {P : Option Value → xH → Nat → Prop} {ad tg : Nat → Nat} {T : Nat} {ys : List Int32} {a : Nat} {v : Int32}
theorem By.k8 {h' : xH} (hA : ad_ok ad tg T) (hB : By h (ad 6) (ad 7) 400 ys) (ho : hp_off [ad 8] h h') : By h' (ad 6) (ad 7) 400 ys := hB.keep ho (by simpa using ad_ne hA (Or.inl (by omega)) (Or.inl (by omega)) (by omega)) (by simpa using ad_ne hA (Or.inl (by omega)) (Or.inl (by omega)) (by omega))
theorem By.len (hB : By h (ad 6) (ad 7) 400 ys) : ys.length ≤ 400 := hB.choose_spec.2.2.1
set_option maxRecDepth 20000 in
theorem Na_isDigit_ok (hB : By h (ad 6) (ad 7) 400 ys) (h8 : h (ad 8) = some (Na_c ad a v)) (ht : dig (by_at ys (nI a)) → P (some (.int (nI 1))) h n) (hf : ¬ dig (by_at ys (nI a)) → P (some (.int (nI 0))) h n) : ev_Run G l (d + 1) bc bs mNa_isDigit 0 [some (.ref (ad 8)), none] [] h n P := by
  refine ev_aload_n dNa_isDigit_0 rfl rfl ?_
  refine ev_get dNa_isDigit_1 fNa_16 h8 rfl ?_
  refine ev_aload_n dNa_isDigit_4 rfl rfl ?_
  refine ev_get dNa_isDigit_5 fNa_27 h8 rfl ?_
  refine cz_By_byteAt dNa_isDigit_8 lNa_68 hB.obj (Nat.le_of_ble_eq_true rfl) (By_byteAt_ok hB ?_)
  refine ev_istore_n dNa_isDigit_11 rfl (by decide) ?_
  refine ev_iload_n dNa_isDigit_12 rfl rfl ?_
  refine ev_bipush (v := nI 48) dNa_isDigit_13 (by decide) ?_
  refine ev_icmp_lt (tgt := 28) dNa_isDigit_15 (by decide) (fun c15 => ?_) (fun c15 => ?_)
  · refine ev_iconst (v := nI 0) dNa_isDigit_28 (by decide) ?_
    refine ev_iret dNa_isDigit_29 rfl rfl ?_
    exact hf (fun z => iI_le_nlt z.1 c15)
  · refine ev_iload_n dNa_isDigit_18 rfl rfl ?_
    refine ev_bipush (v := nI 57) dNa_isDigit_19 (by decide) ?_
    refine ev_icmp_gt (tgt := 28) dNa_isDigit_21 (by decide) (fun c21 => ?_) (fun c21 => ?_)
    · refine ev_iconst (v := nI 0) dNa_isDigit_28 (by decide) ?_
      refine ev_iret dNa_isDigit_29 rfl rfl ?_
      exact hf (fun z => iI_le_nlt z.2 c21)
    · refine ev_iconst (v := nI 1) dNa_isDigit_24 (by decide) ?_
      refine ev_goto (tgt := 29) dNa_isDigit_25 (by decide) ?_
      refine ev_iret dNa_isDigit_29 rfl rfl ?_
      exact ht ⟨iI_nlt c15, iI_nlt c21⟩
set_option maxRecDepth 20000 in
theorem Na_isBlank_ok (hB : By h (ad 6) (ad 7) 400 ys) (h8 : h (ad 8) = some (Na_c ad a v)) (ht : blk (by_at ys (nI a)) → P (some (.int (nI 1))) h n) (hf : ¬ blk (by_at ys (nI a)) → P (some (.int (nI 0))) h n) : ev_Run G l (d + 1) bc bs mNa_isBlank 0 [some (.ref (ad 8)), none] [] h n P := by
  refine ev_aload_n dNa_isBlank_0 rfl rfl ?_
  refine ev_get dNa_isBlank_1 fNa_16 h8 rfl ?_
  refine ev_aload_n dNa_isBlank_4 rfl rfl ?_
  refine ev_get dNa_isBlank_5 fNa_27 h8 rfl ?_
  refine cz_By_byteAt dNa_isBlank_8 lNa_68 hB.obj (Nat.le_of_ble_eq_true rfl) (By_byteAt_ok hB ?_)
  refine ev_istore_n dNa_isBlank_11 rfl (by decide) ?_
  refine ev_iload_n dNa_isBlank_12 rfl rfl ?_
  refine ev_bipush (v := nI 9) dNa_isBlank_13 (by decide) ?_
  refine ev_icmp_eq (tgt := 36) dNa_isBlank_15 (by decide) (fun c15 => ?_) (fun c15 => ?_)
  · refine ev_iconst (v := nI 1) dNa_isBlank_36 (by decide) ?_
    refine ev_goto (tgt := 41) dNa_isBlank_37 (by decide) ?_
    refine ev_iret dNa_isBlank_41 rfl rfl ?_
    exact ht (Or.inl c15)
  · refine ev_iload_n dNa_isBlank_18 rfl rfl ?_
    refine ev_bipush (v := nI 10) dNa_isBlank_19 (by decide) ?_
    refine ev_icmp_eq (tgt := 36) dNa_isBlank_21 (by decide) (fun c21 => ?_) (fun c21 => ?_)
    · refine ev_iconst (v := nI 1) dNa_isBlank_36 (by decide) ?_
      refine ev_goto (tgt := 41) dNa_isBlank_37 (by decide) ?_
      refine ev_iret dNa_isBlank_41 rfl rfl ?_
      exact ht (Or.inr (Or.inl c21))
    · refine ev_iload_n dNa_isBlank_24 rfl rfl ?_
      refine ev_bipush (v := nI 13) dNa_isBlank_25 (by decide) ?_
      refine ev_icmp_eq (tgt := 36) dNa_isBlank_27 (by decide) (fun c27 => ?_) (fun c27 => ?_)
      · refine ev_iconst (v := nI 1) dNa_isBlank_36 (by decide) ?_
        refine ev_goto (tgt := 41) dNa_isBlank_37 (by decide) ?_
        refine ev_iret dNa_isBlank_41 rfl rfl ?_
        exact ht (Or.inr (Or.inr (Or.inl c27)))
      · refine ev_iload_n dNa_isBlank_30 rfl rfl ?_
        refine ev_bipush (v := nI 32) dNa_isBlank_31 (by decide) ?_
        refine ev_icmp_ne (tgt := 40) dNa_isBlank_33 (by decide) (fun c33 => ?_) (fun c33 => ?_)
        · refine ev_iconst (v := nI 0) dNa_isBlank_40 (by decide) ?_
          refine ev_iret dNa_isBlank_41 rfl rfl ?_
          exact hf (fun z => z.elim c15 (fun z => z.elim c21 (fun z => z.elim c27 c33)))
        · refine ev_iconst (v := nI 1) dNa_isBlank_36 (by decide) ?_
          refine ev_goto (tgt := 41) dNa_isBlank_37 (by decide) ?_
          refine ev_iret dNa_isBlank_41 rfl rfl ?_
          exact ht (Or.inr (Or.inr (Or.inr c33)))
set_option maxRecDepth 20000 in
theorem Na_fail_ok {x : Int32} (h8 : h (ad 8) = some (Na_c ad a v)) (hk : ∀ h', h' (ad 8) = some (Na_c ad a (if v = -1 then x else v)) → hp_off [ad 8] h h' → P none h' n) : ev_Run G l d bc bs mNa_fail 0 [some (.ref (ad 8)), some (.int x)] [] h n P := by
  refine ev_aload_n dNa_fail_0 rfl rfl ?_
  refine ev_get dNa_fail_1 fNa_31 h8 rfl ?_
  refine ev_iconst (v := -1) dNa_fail_4 (by decide) ?_
  refine ev_icmp_ne (tgt := 13) dNa_fail_5 (by decide) (fun c5 => ?_) (fun c5 => ?_)
  · rw [if_neg c5] at hk
    refine ev_vret dNa_fail_13 rfl ?_
    exact hk _ h8 hp_off.rf
  · rw [if_pos c5] at hk
    refine ev_aload_n dNa_fail_8 rfl rfl ?_
    refine ev_iload_n dNa_fail_9 rfl rfl ?_
    refine ev_put dNa_fail_10 fNa_31 tNa_2 h8 rfl rfl (Nat.le_of_ble_eq_true rfl) ?_
    refine ev_vret dNa_fail_13 rfl ?_
    exact hk _ ((hp_set_self _ _ _).trans rfl) (hp_off.rf.set (by simp))
set_option maxRecDepth 20000 in
theorem Na_skip_ok (hA : ad_ok ad tg T) (hB : By h (ad 6) (ad 7) 400 ys) (h8 : h (ad 8) = some (Na_c ad a v)) (ha : a ≤ ys.length) (hk : ∀ h', h' (ad 8) = some (Na_c ad (skp ys a) v) → hp_off [ad 8] h h' → P none h' n) : ev_Run G l (d + 2) bc bs mNa_skipBlanks 0 [some (.ref (ad 8)), none] [] h n P := by
  have hl := hB.len
  have loop : ∀ e j b h', j + e = 400 → j ≤ b → b ≤ ys.length → skp ys b = skp ys a → h' (ad 8) = some (Na_c ad b v) → hp_off [ad 8] h h' → ev_Run G l (d + 2) bc bs mNa_skipBlanks 2 [some (.ref (ad 8)), some (.int (nI j))] [] h' n P := by
    intro e
    induction e with
    | zero =>
      intro j b h' hj hjb hb hs hb8 ho
      have hx : skp ys b = b := by have := skp_le hb; unfold skp at this ⊢; omega
      refine ev_iload_n dNa_skipBlanks_2 rfl rfl ?_
      refine ev_sipush (v := nI 400) dNa_skipBlanks_3 (by decide) ?_
      refine ev_icmp_ge (tgt := 32) dNa_skipBlanks_6 (by decide) (fun c6 => ?_) (fun c6 => absurd (nI_le (by omega) (by omega)) c6)
      refine ev_vret dNa_skipBlanks_32 rfl ?_
      rw [← hs, hx] at hk
      exact hk _ hb8 ho
    | succ e ih =>
      intro j b h' hj hjb hb hs hb8 ho
      have hB' := hB.k8 hA ho
      refine ev_iload_n dNa_skipBlanks_2 rfl rfl ?_
      refine ev_sipush (v := nI 400) dNa_skipBlanks_3 (by decide) ?_
      refine ev_icmp_ge (tgt := 32) dNa_skipBlanks_6 (by decide) (fun c6 => False.elim (absurd c6 (nI_ge (by omega) (by omega)))) (fun c6 => ?_)
      refine ev_aload_n dNa_skipBlanks_9 rfl rfl ?_
      refine cz_Na_isBlank dNa_skipBlanks_10 lNa_75 hb8 (Nat.le_of_ble_eq_true rfl) (Na_isBlank_ok hB' hb8 (fun q1 => ?_) (fun q1 => ?_))
      · obtain ⟨q2, q3⟩ := skp_t (by omega) q1
        refine ev_if_eq (tgt := 32) dNa_skipBlanks_13 (by decide) (fun q9 => absurd q9 (by decide)) (fun _ => ?_)
        refine ev_aload_n dNa_skipBlanks_16 rfl rfl ?_
        refine ev_dup dNa_skipBlanks_17 rfl ?_
        refine ev_get dNa_skipBlanks_18 fNa_27 hb8 rfl ?_
        refine ev_iconst (v := nI 1) dNa_skipBlanks_21 (by decide) ?_
        refine ev_iadd dNa_skipBlanks_22 ?_
        refine ev_top (nI_add _ _) ?_
        refine ev_put dNa_skipBlanks_23 fNa_27 tNa_1 hb8 rfl rfl (Nat.le_of_ble_eq_true rfl) ?_
        refine ev_iinc dNa_skipBlanks_26 rfl (ev_inc1 _) (by decide) ?_
        refine ev_goto (tgt := 2) dNa_skipBlanks_29 (by decide) ?_
        exact ih (j + 1) (b + 1) _ (by omega) (by omega) (by omega) (q2.symm.trans hs) ((hp_set_self _ _ _).trans rfl) (ho.set (by simp))
      · refine ev_if_eq (tgt := 32) dNa_skipBlanks_13 (by decide) (fun _ => ?_) (fun q9 => absurd (by decide) q9)
        refine ev_vret dNa_skipBlanks_32 rfl ?_
        rw [← hs, skp_f (by omega) q1] at hk
        exact hk _ hb8 ho
  refine ev_iconst (v := nI 0) dNa_skipBlanks_0 (by decide) ?_
  refine ev_istore_n dNa_skipBlanks_1 rfl (by decide) ?_
  exact loop 400 0 a h (by omega) (by omega) ha rfl h8 hp_off.rf
set_option maxRecDepth 20000 in
theorem Na_sign_ok {c : Int32} (hc : ¬ c = -1) (hA : ad_ok ad tg T) (hB : By h (ad 6) (ad 7) 400 ys) (h8 : h (ad 8) = some (Na_c ad a v)) (ha : a ≤ ys.length) (hk : ∀ h' a' v', h' (ad 8) = some (Na_c ad a' v') → hp_off [ad 8] h h' → a' ≤ ys.length → (v = -1 → match nsg ys c a with | .inl e => v' = nI e | .inr p => v' = -1 ∧ a' = p) → (¬ v = -1 → v' = v) → P none h' n) : ev_Run G l (d + 3) bc bs mNa_readSign 0 [some (.ref (ad 8)), some (.int c)] [] h n P := by
  have hl := hB.len
  have hs := skp_le ha
  refine ev_aload_n dNa_readSign_0 rfl rfl ?_
  refine cz_Na_skipBlanks dNa_readSign_1 lNa_37 h8 (Nat.le_of_ble_eq_true rfl) (Na_skip_ok hA hB h8 ha (fun h1 q1 o1 => ?_))
  have hB1 := hB.k8 hA o1
  refine ev_aload_n dNa_readSign_4 rfl rfl ?_
  refine ev_get dNa_readSign_5 fNa_16 q1 rfl ?_
  refine ev_aload_n dNa_readSign_8 rfl rfl ?_
  refine ev_get dNa_readSign_9 fNa_27 q1 rfl ?_
  refine cz_By_byteAt dNa_readSign_12 lNa_68 hB1.obj (Nat.le_of_ble_eq_true rfl) (By_byteAt_ok hB1 ?_)
  refine ev_iload_n dNa_readSign_15 rfl rfl ?_
  refine ev_icmp_ne (tgt := 32) dNa_readSign_16 (by decide) (fun c16 => ?_) (fun c16 => ?_)
  · refine ev_aload_n dNa_readSign_32 rfl rfl ?_
    refine ev_aload_n dNa_readSign_33 rfl rfl ?_
    refine ev_get dNa_readSign_34 fNa_27 q1 rfl ?_
    refine cz_Na_fail dNa_readSign_37 lNa_72 q1 (Nat.le_of_ble_eq_true rfl) (Na_fail_ok q1 (fun h2 q2 o2 => ?_))
    refine ev_vret dNa_readSign_40 rfl ?_
    exact hk _ _ _ q2 (o1.tr o2) hs (fun z => by rw [nsg, if_neg c16]; exact if_pos z) (fun z => if_neg z)
  · refine ev_aload_n dNa_readSign_19 rfl rfl ?_
    refine ev_dup dNa_readSign_20 rfl ?_
    refine ev_get dNa_readSign_21 fNa_27 q1 rfl ?_
    refine ev_iconst (v := nI 1) dNa_readSign_24 (by decide) ?_
    refine ev_iadd dNa_readSign_25 ?_
    refine ev_top (nI_add _ _) ?_
    refine ev_put dNa_readSign_26 fNa_27 tNa_1 q1 rfl rfl (Nat.le_of_ble_eq_true rfl) ?_
    refine ev_goto (tgt := 40) dNa_readSign_29 (by decide) ?_
    refine ev_vret dNa_readSign_40 rfl ?_
    exact hk _ (skp ys a + 1) v ((hp_set_self _ _ _).trans rfl) (o1.set (by simp)) (by_at_lt (ys := ys) (a := skp ys a) (by omega) (by rw [c16]; exact hc)).2 (fun z => by rw [nsg, if_pos c16]; exact ⟨z, rfl⟩) (fun z => rfl)
set_option maxRecDepth 20000 in
theorem Na_put_ok {x : Int32} (hB : By h (ad 6) (ad 7) 400 ys) (h8 : h (ad 8) = some (Na_c ad a v)) (ht : ys.length < 400 → ∀ h', By h' (ad 6) (ad 7) 400 (ys ++ [x]) → hp_off [ad 6, ad 7] h h' → P (some (.int (nI 1))) h' n) (hf : ys.length = 400 → P (some (.int (nI 0))) h n) : ev_Run G l (d + 1) bc bs mNa_put 0 [some (.ref (ad 8)), some (.int x)] [] h n P := by
  refine ev_aload_n dNa_put_0 rfl rfl ?_
  refine ev_get dNa_put_1 fNa_16 h8 rfl ?_
  refine ev_iload_n dNa_put_4 rfl rfl ?_
  refine cz_By_put dNa_put_5 lNa_20 hB.obj (Nat.le_of_ble_eq_true rfl) (By_put_ok hB (fun z1 h2 B2 o2 => ?_) (fun z1 => ?_))
  · refine ev_iret dNa_put_8 rfl rfl ?_
    exact ht z1 _ B2 o2
  · refine ev_iret dNa_put_8 rfl rfl ?_
    exact hf z1
set_option maxRecDepth 20000 in
theorem Na_clear_ok (hB : By h (ad 6) (ad 7) 400 ys) (h8 : h (ad 8) = some (Na_c ad a v)) (hk : ∀ h', By h' (ad 6) (ad 7) 400 [] → hp_off [ad 6, ad 7] h h' → P none h' n) : ev_Run G l (d + 1) bc bs mNa_clear 0 [some (.ref (ad 8))] [] h n P := by
  refine ev_aload_n dNa_clear_0 rfl rfl ?_
  refine ev_get dNa_clear_1 fNa_16 h8 rfl ?_
  refine cz_By_clear dNa_clear_4 lNa_24 hB.obj (Nat.le_of_ble_eq_true rfl) (By_clear_ok hB (fun h2 B2 o2 => ?_))
  refine ev_vret dNa_clear_7 rfl ?_
  exact hk _ B2 o2
end NA
