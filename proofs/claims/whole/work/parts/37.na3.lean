/-! the reader: a rule, the whole text; names, name, unit -/
abbrev na_S (ad : Nat → Nat) (r : Nat) : List Nat := [ad 8, ad r, ad (r + 1), ad (r + 2), ad (r + 3), ad (r + 4)]
section NA3
variable {G : xG} {l : Launch} {d bc bs : Nat} {h : xH} {n n0 : Nat} {P : Option Value → xH → Nat → Prop} {ad tg : Nat → Nat} {T r lr lq : Nat} {ys : List Int32} {a : Nat} {us : List sU} {ts : List sT}
theorem Ru.k8 {h' : xH} (hA : ad_ok ad tg T) (hr : 8 < r ∧ r + 4 < 26) (hR : Ru h ad r us) (ho : hp_off [ad 8] h h') : Ru h' ad r us := hR.keep (fun k k1 k2 => ho _ (by simpa using ad_ne hA (Or.inl (by omega)) (Or.inl (by omega)) (by omega)))
theorem off8 {h h' : xH} (ho : hp_off [ad 8] h h') : hp_off (na_S ad r) h h' := ho.mono (by intro q hq; simp at hq; simp [hq])
theorem offR {h h' : xH} (ho : hp_off (ru_S ad r) h h') : hp_off (na_S ad r) h h' := ho.mono (by intro q hq; simp at hq; simp; omega)
theorem By.kR {h' : xH} (hA : ad_ok ad tg T) (hr : 8 < r ∧ r + 4 < 26) (hB : By h (ad 6) (ad 7) 400 ys) (ho : hp_off (na_S ad r) h h') : By h' (ad 6) (ad 7) 400 ys := by
  have ne : ∀ j k, j < 26 → k < 26 → j ≠ k → ad j ≠ ad k := fun j k hj hk => ad_ne hA (Or.inl hj) (Or.inl hk)
  refine hB.keep ho ?_ ?_
  · simp only [List.mem_cons, List.not_mem_nil, or_false]
    rintro (e | e | e | e | e | e) <;> exact ne _ _ (by omega) (by omega) (by omega) e
  · simp only [List.mem_cons, List.not_mem_nil, or_false]
    rintro (e | e | e | e | e | e) <;> exact ne _ _ (by omega) (by omega) (by omega) e
set_option maxRecDepth 20000 in
set_option maxHeartbeats 2000000 in
theorem Na_rule_ok (hA : ad_ok ad tg T) (hr : 8 < r ∧ r + 4 < 26) (hB : By h (ad 6) (ad 7) 400 ys) (hR : Ru h ad r us) (h8 : h (ad 8) = some (Na_c ad a (-1))) (ha : a ≤ ys.length) (hk : ∀ h' a' v' us', h' (ad 8) = some (Na_c ad a' v') → hp_off (na_S ad r) h h' → a' ≤ ys.length → Ru h' ad r us' → (match nru ys (decide (us.length = 40)) a with | .inl e => v' = nI e ∧ e ≤ 400 ∧ us' = us | .inr p => v' = -1 ∧ a' = p.2 ∧ us' = us ++ [p.1]) → P none h' n) : ev_Run G l (d + 4) bc bs mNa_readRule 0 [some (.ref (ad 8)), some (.ref (ad r)), none, none, none, none] [] h n P := by
  have hl := hB.len
  have h0 := hR.obj
  have n8 : ad 8 ∉ ru_S ad r := by
    have ne : ∀ j k, j < 26 → k < 26 → j ≠ k → ad j ≠ ad k := fun j k hj hk => ad_ne hA (Or.inl hj) (Or.inl hk)
    simp only [List.mem_cons, List.not_mem_nil, or_false]
    rintro (e | e | e | e | e) <;> exact ne _ _ (by omega) (by omega) (by omega) e
  have rest : ∀ full hi a1 v1 w1 h1, full = decide (us.length = 40) → hi = (if full then -1 else nI 99) → h1 (ad 8) = some (Na_c ad a1 v1) → hp_off [ad 8] h h1 → a1 ≤ ys.length → num_r ys (nI 0) hi a a1 (-1) v1 w1 → ev_Run G l (d + 4) bc bs mNa_readRule 18 [some (.ref (ad 8)), some (.ref (ad r)), none, none, none, none] [.int w1] h1 n P := by
    rintro full hi a1 v1 w1 h1 hfu rfl q1 o1 b1 r1
    have B1 := hB.k8 hA o1
    refine ev_istore_n dNa_readRule_18 rfl (by decide) ?_
    refine ev_aload_n dNa_readRule_19 rfl rfl ?_
    refine ev_bipush (v := nI 58) dNa_readRule_20 (by decide) ?_
    refine cz_Na_readSign dNa_readRule_22 lNa_56 q1 (Nat.le_of_ble_eq_true rfl) (Na_sign_ok (by decide) hA B1 q1 b1 (fun h2 a2 v2 q2 o2 b2 r2 s2 => ?_))
    have B2 := B1.k8 hA o2
    refine ev_aload_n dNa_readRule_25 rfl rfl ?_
    refine ev_iconst (v := nI 0) dNa_readRule_26 (by decide) ?_
    refine ev_sipush (v := nI 999) dNa_readRule_27 (by decide) ?_
    refine cz_Na_readNumber dNa_readRule_30 lNa_52 q2 (Nat.le_of_ble_eq_true rfl) (Na_number_ok hA B2 q2 b2 (fun h3 a3 v3 w2 q3 o3 b3 r3 => ?_))
    have B3 := B2.k8 hA o3
    refine ev_istore_n dNa_readRule_33 rfl (by decide) ?_
    refine ev_aload_n dNa_readRule_34 rfl rfl ?_
    refine ev_bipush (v := nI 45) dNa_readRule_35 (by decide) ?_
    refine cz_Na_readSign dNa_readRule_37 lNa_56 q3 (Nat.le_of_ble_eq_true rfl) (Na_sign_ok (by decide) hA B3 q3 b3 (fun h4 a4 v4 q4 o4 b4 r4 s4 => ?_))
    have B4 := B3.k8 hA o4
    refine ev_aload_n dNa_readRule_40 rfl rfl ?_
    refine ev_iload_n dNa_readRule_41 rfl rfl ?_
    refine ev_sipush (v := nI 999) dNa_readRule_42 (by decide) ?_
    refine cz_Na_readNumber dNa_readRule_45 lNa_52 q4 (Nat.le_of_ble_eq_true rfl) (Na_number_ok hA B4 q4 b4 (fun h5 a5 v5 w3 q5 o5 b5 r5 => ?_))
    have B5 := B4.k8 hA o5
    refine ev_istore dNa_readRule_48 (by decide) ?_
    refine ev_aload_n dNa_readRule_50 rfl rfl ?_
    refine ev_bipush (v := nI 44) dNa_readRule_51 (by decide) ?_
    refine cz_Na_readSign dNa_readRule_53 lNa_56 q5 (Nat.le_of_ble_eq_true rfl) (Na_sign_ok (by decide) hA B5 q5 b5 (fun h6 a6 v6 q6 o6 b6 r6 s6 => ?_))
    have B6 := B5.k8 hA o6
    refine ev_aload_n dNa_readRule_56 rfl rfl ?_
    refine ev_iconst (v := nI 0) dNa_readRule_57 (by decide) ?_
    refine ev_ldc (v := nI 999999) dNa_readRule_58 qNa_60 ?_
    refine cz_Na_readNumber dNa_readRule_60 lNa_52 q6 (Nat.le_of_ble_eq_true rfl) (Na_number_ok hA B6 q6 b6 (fun h7 a7 v7 w4 q7 o7 b7 r7 => ?_))
    have B7 := B6.k8 hA o7
    refine ev_istore dNa_readRule_63 (by decide) ?_
    refine ev_aload_n dNa_readRule_65 rfl rfl ?_
    refine ev_bipush (v := nI 59) dNa_readRule_66 (by decide) ?_
    refine cz_Na_readSign dNa_readRule_68 lNa_56 q7 (Nat.le_of_ble_eq_true rfl) (Na_sign_ok (by decide) hA B7 q7 b7 (fun h9 a8 v8 q8 o8 b8 r8 s8 => ?_))
    have B8 := B7.k8 hA o8
    have O := ((((((o1.tr o2).tr o3).tr o4).tr o5).tr o6).tr o7).tr o8
    have R8 := hR.k8 hA hr O
    have ch := nru_chain hl ha b1 b2 b3 b4 b5 b6 b7 r1 ⟨r2, s2⟩ r3 ⟨r4, s4⟩ r5 ⟨r6, s6⟩ r7 ⟨r8, s8⟩
    refine ev_aload_n dNa_readRule_71 rfl rfl ?_
    refine ev_get dNa_readRule_72 fNa_31 q8 rfl ?_
    refine ev_iconst (v := -1) dNa_readRule_75 (by decide) ?_
    refine ev_icmp_ne (tgt := 89) dNa_readRule_76 (by decide) (fun c76 => ?_) (fun c76 => ?_)
    · refine ev_vret dNa_readRule_89 rfl ?_
      refine hk _ a8 v8 us q8 (off8 O) b8 R8 ?_
      rw [← hfu]
      cases hq : nru ys full a with | inl e => (rw [hq] at ch; exact ⟨ch.1, ch.2, rfl⟩) | inr p => (rw [hq] at ch; exact absurd ch.1 c76)
    · refine ev_aload_n dNa_readRule_79 rfl rfl ?_
      refine ev_iload_n dNa_readRule_80 rfl rfl ?_
      refine ev_iload_n dNa_readRule_81 rfl rfl ?_
      refine ev_iload dNa_readRule_82 rfl ?_
      refine ev_iload dNa_readRule_84 rfl ?_
      obtain ⟨p, hp⟩ : ∃ p, nru ys full a = .inr p := (by cases hq : nru ys full a with | inl e => (rw [hq] at ch; exact absurd (ch.1.symm.trans c76) (nI_ne1 (by have := ch.2; omega))) | inr p => exact ⟨p, rfl⟩)
      rw [hp] at ch
      have hlt : us.length < 40 := (by have := hR.len; rcases Nat.lt_or_ge us.length 40 with q | q; exact q; exfalso; have : us.length = 40 := (by omega); rw [decide_eq_true this] at hfu; subst hfu; obtain ⟨e, he⟩ := nru_full (ys := ys) (a := a); rw [he] at hp; cases hp)
      refine cz_Ru_add dNa_readRule_86 lNa_61 R8.obj (Nat.le_of_ble_eq_true rfl) (Ru_add_ok hA hr.2 R8 hlt (fun h10 R10 o10 => ?_))
      refine ev_vret dNa_readRule_89 rfl ?_
      refine hk _ a8 (-1) _ ((o10 _ n8).trans (c76 ▸ q8)) ((off8 O).tr (offR o10)) b8 R10 ?_
      rw [← hfu, hp, ch.2]
      exact ⟨rfl, rfl, rfl⟩
  refine ev_aload_n dNa_readRule_0 rfl rfl ?_
  refine ev_iconst (v := nI 0) dNa_readRule_1 (by decide) ?_
  refine ev_aload_n dNa_readRule_2 rfl rfl ?_
  refine cz_Ru_isFull dNa_readRule_3 lNa_48 h0 (Nat.le_of_ble_eq_true rfl) (Ru_isFull_ok hR (fun q => ?_) (fun q => ?_))
  · refine ev_if_eq (tgt := 13) dNa_readRule_6 (by decide) (fun q9 => absurd q9 (by decide)) (fun _ => ?_)
    refine ev_iconst (v := -1) dNa_readRule_9 (by decide) ?_
    refine ev_goto (tgt := 15) dNa_readRule_10 (by decide) ?_
    refine cz_Na_readNumber dNa_readRule_15 lNa_52 h8 (Nat.le_of_ble_eq_true rfl) (Na_number_ok hA hB h8 ha (fun h1 a1 v1 w1 q1 o1 b1 r1 => ?_))
    exact rest true _ a1 v1 w1 h1 (by simp [q]) rfl q1 o1 b1 r1
  · refine ev_if_eq (tgt := 13) dNa_readRule_6 (by decide) (fun _ => ?_) (fun q9 => absurd (by decide) q9)
    refine ev_bipush (v := nI 99) dNa_readRule_13 (by decide) ?_
    refine cz_Na_readNumber dNa_readRule_15 lNa_52 h8 (Nat.le_of_ble_eq_true rfl) (Na_number_ok hA hB h8 ha (fun h1 a1 v1 w1 q1 o1 b1 r1 => ?_))
    exact rest false _ a1 v1 w1 h1 (by simp; omega) rfl q1 o1 b1 r1
end NA3
