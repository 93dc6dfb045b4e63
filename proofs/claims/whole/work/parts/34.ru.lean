/-! the rules: code, first place, second place, day -/
theorem nI_ne1 {j : Nat} (h : j < 2 ^ 31) : ¬ nI j = -1 := fun e => nI_pos h (by rw [e]; decide)
abbrev sU : Type := Int32 × Int32 × Int32 × Int32
def uday (us : List sU) (b : Nat) : Int32 := match us[b]? with
  | some w => w.2.2.2
  | none => 0
def frc (us : List sU) (c D : Int32) : Nat → Option Nat
  | 0 => none
  | j + 1 => match us[j]? with
    | none => frc us c D j
    | some u => if u.1 = c ∧ u.2.2.2 ≤ D then (match frc us c D j with
      | none => some j
      | some b => if uday us b ≤ u.2.2.2 then some j else some b) else frc us c D j
def fv : Option Nat → Int32
  | none => -1
  | some b => nI b
theorem frc_lt {us : List sU} {c D : Int32} : ∀ j b, frc us c D j = some b → b < j ∧ b < us.length := by
  intro j
  induction j with
  | zero => intro b h; cases h
  | succ j ih =>
    intro b h
    unfold frc at h
    cases hu : us[j]? with
    | none => rw [hu] at h; have := ih b h; exact ⟨by omega, this.2⟩
    | some u =>
      have hj := (List.getElem?_eq_some_iff.mp hu).1
      rw [hu] at h
      simp only [] at h
      split at h
      · cases hf : frc us c D j with
        | none => rw [hf] at h; cases h; exact ⟨by omega, hj⟩
        | some x =>
          rw [hf] at h
          simp only [] at h
          have := ih x hf
          split at h
          · cases h; exact ⟨by omega, hj⟩
          · cases h; exact ⟨by omega, this.2⟩
      · have := ih b h; exact ⟨by omega, this.2⟩
theorem frc_no {us : List sU} {c D : Int32} {j : Nat} {u : sU} (hu : us[j]? = some u) (h : ¬ (u.1 = c ∧ u.2.2.2 ≤ D)) : frc us c D (j + 1) = frc us c D j := by
  rw [frc, hu]; simp only []; rw [if_neg h]
theorem frc_new {us : List sU} {c D : Int32} {j : Nat} {u : sU} (hu : us[j]? = some u) (h : u.1 = c ∧ u.2.2.2 ≤ D) (hf : frc us c D j = none) : frc us c D (j + 1) = some j := by
  rw [frc, hu]; simp only []; rw [if_pos h, hf]
theorem frc_up {us : List sU} {c D : Int32} {j b : Nat} {u w : sU} (hu : us[j]? = some u) (h : u.1 = c ∧ u.2.2.2 ≤ D) (hf : frc us c D j = some b) (hw : us[b]? = some w) : frc us c D (j + 1) = if w.2.2.2 ≤ u.2.2.2 then some j else some b := by
  rw [frc, hu]; simp only []; rw [if_pos h, hf]; simp only [uday, hw]
def Ru (h : xH) (ad : Nat → Nat) (r : Nat) (us : List sU) : Prop := ∃ (f1 f2 f3 f4 : Nat → Int32), h (ad r) = some (.inr (4, [.ref (ad (r + 1)), .ref (ad (r + 2)), .ref (ad (r + 3)), .ref (ad (r + 4)), .int (nI us.length)])) ∧ h (ad (r + 1)) = some (.inl (0, 40, .inl f1)) ∧ h (ad (r + 2)) = some (.inl (0, 40, .inl f2)) ∧ h (ad (r + 3)) = some (.inl (0, 40, .inl f3)) ∧ h (ad (r + 4)) = some (.inl (0, 40, .inl f4)) ∧ us.length ≤ 40 ∧ (∀ k u, us[k]? = some u → f1 k = u.1 ∧ f2 k = u.2.1 ∧ f3 k = u.2.2.1 ∧ f4 k = u.2.2.2)
theorem Ru.keep {h h' : xH} {ad : Nat → Nat} {r : Nat} {us : List sU} (hL : Ru h ad r us) (hq : ∀ k, r ≤ k → k < r + 5 → h' (ad k) = h (ad k)) : Ru h' ad r us := by
  obtain ⟨f1, f2, f3, f4, h0, h1, h2, h3, h4, r'⟩ := hL
  exact ⟨f1, f2, f3, f4, (hq r (by omega) (by omega)).trans h0, (hq (r + 1) (by omega) (by omega)).trans h1, (hq (r + 2) (by omega) (by omega)).trans h2, (hq (r + 3) (by omega) (by omega)).trans h3, (hq (r + 4) (by omega) (by omega)).trans h4, r'⟩
abbrev ru_S (ad : Nat → Nat) (r : Nat) : List Nat := [ad r, ad (r + 1), ad (r + 2), ad (r + 3), ad (r + 4)]
section RU
variable {G : xG} {l : Launch} {d bc bs : Nat} {h : xH} {n : Nat} {P : Option Value → xH → Nat → Prop} {ad tg : Nat → Nat} {r T : Nat} {us : List sU}
theorem Ru.obj (hL : Ru h ad r us) : h (ad r) = some (.inr (4, [.ref (ad (r + 1)), .ref (ad (r + 2)), .ref (ad (r + 3)), .ref (ad (r + 4)), .int (nI us.length)])) := hL.choose_spec.choose_spec.choose_spec.choose_spec.1
theorem Ru.len (hL : Ru h ad r us) : us.length ≤ 40 := hL.choose_spec.choose_spec.choose_spec.choose_spec.2.2.2.2.2.1
set_option maxRecDepth 20000 in
theorem Ru_size_ok (hL : Ru h ad r us) (hk : P (some (.int (nI us.length))) h n) : ev_Run G l d bc bs mRu_size 0 [some (.ref (ad r))] [] h n P := by
  have h0 := hL.obj
  refine ev_aload_n dRu_size_0 rfl rfl ?_
  refine ev_get dRu_size_1 fRu_24 h0 rfl ?_
  refine ev_iret dRu_size_4 rfl rfl ?_
  exact hk
set_option maxRecDepth 20000 in
theorem Ru_isFull_ok (hL : Ru h ad r us) (ht : us.length = 40 → P (some (.int (nI 1))) h n) (hf : us.length < 40 → P (some (.int (nI 0))) h n) : ev_Run G l d bc bs mRu_isFull 0 [some (.ref (ad r))] [] h n P := by
  obtain ⟨f1, f2, f3, f4, h0, h1, h2, h3, h4, l1, e1⟩ := hL
  refine ev_aload_n dRu_isFull_0 rfl rfl ?_
  refine ev_get dRu_isFull_1 fRu_24 h0 rfl ?_
  refine ev_aload_n dRu_isFull_4 rfl rfl ?_
  refine ev_get dRu_isFull_5 fRu_11 h0 rfl ?_
  refine ev_alen dRu_isFull_8 h1 rfl ?_
  refine ev_icmp_lt (tgt := 16) dRu_isFull_9 (by decide) (fun c9 => ?_) (fun c9 => ?_)
  · refine ev_iconst (v := nI 0) dRu_isFull_16 (by decide) ?_
    refine ev_iret dRu_isFull_17 rfl rfl ?_
    have hc : nI us.length < nI 40 := c9
    rw [nI_ltI (by omega) (by decide)] at hc
    exact hf hc
  · refine ev_iconst (v := nI 1) dRu_isFull_12 (by decide) ?_
    refine ev_goto (tgt := 17) dRu_isFull_13 (by decide) ?_
    refine ev_iret dRu_isFull_17 rfl rfl ?_
    have hc : ¬ nI us.length < nI 40 := c9
    rw [nI_ltI (by omega) (by decide)] at hc
    exact ht (by omega)
set_option maxRecDepth 20000 in
theorem Ru_clear_ok (hA : ad_ok ad tg T) (hr : r + 4 < 26) (hL : Ru h ad r us) (hk : ∀ h', Ru h' ad r [] → hp_off (ru_S ad r) h h' → P none h' n) : ev_Run G l d bc bs mRu_clear 0 [some (.ref (ad r))] [] h n P := by
  have ne : ∀ j k, j < 26 → k < 26 → j ≠ k → ad j ≠ ad k := fun j k hj hk => ad_ne hA (Or.inl hj) (Or.inl hk)
  obtain ⟨f1, f2, f3, f4, h0, h1, h2, h3, h4, l1, e1⟩ := hL
  refine ev_aload_n dRu_clear_0 rfl rfl ?_
  refine ev_iconst (v := nI 0) dRu_clear_1 (by decide) ?_
  refine ev_put dRu_clear_2 fRu_24 tRu_4 h0 rfl rfl (Nat.le_of_ble_eq_true rfl) ?_
  refine ev_vret dRu_clear_5 rfl ?_
  exact hk _ ⟨f1, f2, f3, f4, (hp_set_self _ _ _).trans rfl, (hp_set_ne _ _ (ne _ _ (by omega) (by omega) (by omega))).trans h1, (hp_set_ne _ _ (ne _ _ (by omega) (by omega) (by omega))).trans h2, (hp_set_ne _ _ (ne _ _ (by omega) (by omega) (by omega))).trans h3, (hp_set_ne _ _ (ne _ _ (by omega) (by omega) (by omega))).trans h4, by simp, fun k v hk => by simp at hk⟩ (hp_off.rf.set (by simp))
set_option maxRecDepth 20000 in
set_option maxHeartbeats 1000000 in
theorem Ru_add_ok {c x y D : Int32} (hA : ad_ok ad tg T) (hr : r + 4 < 26) (hL : Ru h ad r us) (hlt : us.length < 40) (hk : ∀ h', Ru h' ad r (us ++ [(c, x, y, D)]) → hp_off (ru_S ad r) h h' → P none h' n) : ev_Run G l (d + 1) bc bs mRu_add 0 [some (.ref (ad r)), some (.int c), some (.int x), some (.int y), some (.int D)] [] h n P := by
  have ne : ∀ j k, j < 26 → k < 26 → j ≠ k → ad j ≠ ad k := fun j k hj hk => ad_ne hA (Or.inl hj) (Or.inl hk)
  obtain ⟨f1, f2, f3, f4, h0, h1, h2, h3, h4, l1, e1⟩ := id hL
  have n01 := ne r (r + 1) (by omega) (by omega) (by omega)
  have n02 := ne r (r + 2) (by omega) (by omega) (by omega)
  have n03 := ne r (r + 3) (by omega) (by omega) (by omega)
  have n04 := ne r (r + 4) (by omega) (by omega) (by omega)
  have n12 := ne (r + 1) (r + 2) (by omega) (by omega) (by omega)
  have n13 := ne (r + 1) (r + 3) (by omega) (by omega) (by omega)
  have n14 := ne (r + 1) (r + 4) (by omega) (by omega) (by omega)
  have n23 := ne (r + 2) (r + 3) (by omega) (by omega) (by omega)
  have n24 := ne (r + 2) (r + 4) (by omega) (by omega) (by omega)
  have n34 := ne (r + 3) (r + 4) (by omega) (by omega) (by omega)
  refine ev_aload_n dRu_add_0 rfl rfl ?_
  refine cz_Ru_isFull dRu_add_1 lRu_28 h0 (Nat.le_of_ble_eq_true rfl) (Ru_isFull_ok hL (fun q1 => ?_) (fun q1 => ?_))
  · exact absurd q1 (by omega)
    
  · refine ev_if_ne (tgt := 58) dRu_add_4 (by decide) (fun q9 => absurd (by decide) q9) (fun _ => ?_)
    refine ev_aload_n dRu_add_7 rfl rfl ?_
    refine ev_get dRu_add_8 fRu_11 h0 rfl ?_
    refine ev_aload_n dRu_add_11 rfl rfl ?_
    refine ev_get dRu_add_12 fRu_24 h0 rfl ?_
    refine ev_iload_n dRu_add_15 rfl rfl ?_
    refine ev_iast dRu_add_16 h1 rfl rfl (by omega) (by decide) ?_
    refine ev_aload_n dRu_add_17 rfl rfl ?_
    refine ev_get dRu_add_18 fRu_15 ((hp_set_ne _ _ n01).trans h0) rfl ?_
    refine ev_aload_n dRu_add_21 rfl rfl ?_
    refine ev_get dRu_add_22 fRu_24 ((hp_set_ne _ _ n01).trans h0) rfl ?_
    refine ev_iload_n dRu_add_25 rfl rfl ?_
    refine ev_iast dRu_add_26 ((hp_set_ne _ _ (Ne.symm n12)).trans h2) rfl rfl (by omega) (by decide) ?_
    refine ev_aload_n dRu_add_27 rfl rfl ?_
    refine ev_get dRu_add_28 fRu_18 ((hp_set_ne _ _ n02).trans ((hp_set_ne _ _ n01).trans h0)) rfl ?_
    refine ev_aload_n dRu_add_31 rfl rfl ?_
    refine ev_get dRu_add_32 fRu_24 ((hp_set_ne _ _ n02).trans ((hp_set_ne _ _ n01).trans h0)) rfl ?_
    refine ev_iload_n dRu_add_35 rfl rfl ?_
    refine ev_iast dRu_add_36 ((hp_set_ne _ _ (Ne.symm n23)).trans ((hp_set_ne _ _ (Ne.symm n13)).trans h3)) rfl rfl (by omega) (by decide) ?_
    refine ev_aload_n dRu_add_37 rfl rfl ?_
    refine ev_get dRu_add_38 fRu_21 ((hp_set_ne _ _ n03).trans ((hp_set_ne _ _ n02).trans ((hp_set_ne _ _ n01).trans h0))) rfl ?_
    refine ev_aload_n dRu_add_41 rfl rfl ?_
    refine ev_get dRu_add_42 fRu_24 ((hp_set_ne _ _ n03).trans ((hp_set_ne _ _ n02).trans ((hp_set_ne _ _ n01).trans h0))) rfl ?_
    refine ev_iload dRu_add_45 rfl ?_
    refine ev_iast dRu_add_47 ((hp_set_ne _ _ (Ne.symm n34)).trans ((hp_set_ne _ _ (Ne.symm n24)).trans ((hp_set_ne _ _ (Ne.symm n14)).trans h4))) rfl rfl (by omega) (by decide) ?_
    refine ev_aload_n dRu_add_48 rfl rfl ?_
    refine ev_dup dRu_add_49 rfl ?_
    refine ev_get dRu_add_50 fRu_24 ((hp_set_ne _ _ n04).trans ((hp_set_ne _ _ n03).trans ((hp_set_ne _ _ n02).trans ((hp_set_ne _ _ n01).trans h0)))) rfl ?_
    refine ev_iconst (v := nI 1) dRu_add_53 (by decide) ?_
    refine ev_iadd dRu_add_54 ?_
    refine ev_top (nI_add _ _) ?_
    refine ev_put dRu_add_55 fRu_24 tRu_4 ((hp_set_ne _ _ n04).trans ((hp_set_ne _ _ n03).trans ((hp_set_ne _ _ n02).trans ((hp_set_ne _ _ n01).trans h0)))) rfl rfl (Nat.le_of_ble_eq_true rfl) ?_
    refine ev_vret dRu_add_58 rfl ?_
    refine hk _ ⟨upd f1 us.length c, upd f2 us.length x, upd f3 us.length y, upd f4 us.length D, (hp_set_self _ _ _).trans (by simp), (hp_set_ne _ _ (Ne.symm n01)).trans ((hp_set_ne _ _ n14).trans ((hp_set_ne _ _ n13).trans ((hp_set_ne _ _ n12).trans (hp_set_self _ _ _)))), (hp_set_ne _ _ (Ne.symm n02)).trans ((hp_set_ne _ _ n24).trans ((hp_set_ne _ _ n23).trans (hp_set_self _ _ _))), (hp_set_ne _ _ (Ne.symm n03)).trans ((hp_set_ne _ _ n34).trans (hp_set_self _ _ _)), (hp_set_ne _ _ (Ne.symm n04)).trans (hp_set_self _ _ _), by simp; omega, fun k v hk => ?_⟩ (((((hp_off.rf.set (by simp)).set (by simp)).set (by simp)).set (by simp)).set (by simp))
    rcases Nat.lt_or_ge k us.length with q | q
    · rw [List.getElem?_append_left q] at hk; rw [pk_un (by omega), pk_un (by omega), pk_un (by omega), pk_un (by omega)]; exact e1 k v hk
    · have hk1 := (List.getElem?_eq_some_iff.mp hk).1; have : k = us.length := (by simp at hk1; omega); subst this; simp at hk; subst hk; exact ⟨pk_us, pk_us, pk_us, pk_us⟩
set_option maxRecDepth 20000 in
set_option maxHeartbeats 1000000 in
theorem Ru_inForce_ok {c D : Int32} (hL : Ru h ad r us) (hk : P (some (.int (fv (frc us c D us.length)))) h n) : ev_Run G l d bc bs mRu_inForce 0 [some (.ref (ad r)), some (.int c), some (.int D), none, none, none] [] h n P := by
  obtain ⟨f1, f2, f3, f4, h0, h1, h2, h3, h4, l1, e1⟩ := hL
  have loop : ∀ e j w, j + e = us.length → ev_Run G l d bc bs mRu_inForce 5 [some (.ref (ad r)), some (.int c), some (.int D), some (.int (fv (frc us c D j))), some (.int (nI j)), w] [] h n P := by
    intro e
    induction e with
    | zero =>
      intro j w hj
      have : j = us.length := by omega
      subst this
      refine ev_iload dRu_inForce_5 rfl ?_
      refine ev_aload_n dRu_inForce_7 rfl rfl ?_
      refine ev_get dRu_inForce_8 fRu_24 h0 rfl ?_
      refine ev_icmp_ge (tgt := 78) dRu_inForce_11 (by decide) (fun c11 => ?_) (fun c11 => absurd (nI_le (by omega) (by omega)) c11)
      refine ev_iload_n dRu_inForce_78 rfl rfl ?_
      refine ev_iret dRu_inForce_79 rfl rfl ?_
      exact hk
    | succ e ih =>
      intro j w hj
      obtain ⟨u, hu⟩ : ∃ u, us[j]? = some u := ⟨_, List.getElem?_eq_getElem (by omega)⟩
      obtain ⟨x1, x2, x3, x4⟩ := e1 j u hu
      have hi := fun w => ih (j + 1) w (by omega)
      cases hf : frc us c D j with
      | none =>
        refine ev_iload dRu_inForce_5 rfl ?_
        refine ev_aload_n dRu_inForce_7 rfl rfl ?_
        refine ev_get dRu_inForce_8 fRu_24 h0 rfl ?_
        refine ev_icmp_ge (tgt := 78) dRu_inForce_11 (by decide) (fun c11 => False.elim (absurd c11 (nI_ge (by omega) (by omega)))) (fun c11 => ?_)
        refine ev_aload_n dRu_inForce_14 rfl rfl ?_
        refine ev_get dRu_inForce_15 fRu_11 h0 rfl ?_
        refine ev_iload dRu_inForce_18 rfl ?_
        refine ev_iald dRu_inForce_20 h1 rfl rfl (by omega) (by decide) ?_
        refine ev_top (x1) ?_
        refine ev_iload_n dRu_inForce_21 rfl rfl ?_
        refine ev_icmp_ne (tgt := 40) dRu_inForce_22 (by decide) (fun c22 => ?_) (fun c22 => ?_)
        · refine ev_iconst (v := nI 0) dRu_inForce_40 (by decide) ?_
          refine ev_istore dRu_inForce_41 (by decide) ?_
          refine ev_iload dRu_inForce_43 rfl ?_
          refine ev_if_eq (tgt := 72) dRu_inForce_45 (by decide) (fun c45 => ?_) (fun c45 => absurd ((by decide)) c45)
          refine ev_iinc dRu_inForce_72 rfl (ev_inc1 _) (by decide) ?_
          refine ev_goto (tgt := 5) dRu_inForce_75 (by decide) ?_
          rw [frc_no hu (fun z => c22 z.1), hf] at hi
          exact hi _
        · refine ev_aload_n dRu_inForce_25 rfl rfl ?_
          refine ev_get dRu_inForce_26 fRu_21 h0 rfl ?_
          refine ev_iload dRu_inForce_29 rfl ?_
          refine ev_iald dRu_inForce_31 h4 rfl rfl (by omega) (by decide) ?_
          refine ev_top (x4) ?_
          refine ev_iload_n dRu_inForce_32 rfl rfl ?_
          refine ev_icmp_gt (tgt := 40) dRu_inForce_33 (by decide) (fun c33 => ?_) (fun c33 => ?_)
          · refine ev_iconst (v := nI 0) dRu_inForce_40 (by decide) ?_
            refine ev_istore dRu_inForce_41 (by decide) ?_
            refine ev_iload dRu_inForce_43 rfl ?_
            refine ev_if_eq (tgt := 72) dRu_inForce_45 (by decide) (fun c45 => ?_) (fun c45 => absurd ((by decide)) c45)
            refine ev_iinc dRu_inForce_72 rfl (ev_inc1 _) (by decide) ?_
            refine ev_goto (tgt := 5) dRu_inForce_75 (by decide) ?_
            rw [frc_no hu (fun z => iI_le_nlt z.2 c33), hf] at hi
            exact hi _
          · refine ev_iconst (v := nI 1) dRu_inForce_36 (by decide) ?_
            refine ev_goto (tgt := 41) dRu_inForce_37 (by decide) ?_
            refine ev_istore dRu_inForce_41 (by decide) ?_
            refine ev_iload dRu_inForce_43 rfl ?_
            refine ev_if_eq (tgt := 72) dRu_inForce_45 (by decide) (fun c45 => False.elim (absurd c45 (by decide))) (fun c45 => ?_)
            refine ev_iload_n dRu_inForce_48 rfl rfl ?_
            refine ev_iconst (v := -1) dRu_inForce_49 (by decide) ?_
            refine ev_icmp_eq (tgt := 69) dRu_inForce_50 (by decide) (fun c50 => ?_) (fun c50 => absurd (rfl) c50)
            refine ev_iload dRu_inForce_69 rfl ?_
            refine ev_istore_n dRu_inForce_71 rfl (by decide) ?_
            refine ev_iinc dRu_inForce_72 rfl (ev_inc1 _) (by decide) ?_
            refine ev_goto (tgt := 5) dRu_inForce_75 (by decide) ?_
            rw [frc_new hu ⟨c22, iI_nlt c33⟩ hf] at hi
            exact hi _
      | some b =>
        obtain ⟨hb1, hb2⟩ := frc_lt j b hf
        obtain ⟨w', hw⟩ : ∃ w, us[b]? = some w := ⟨_, List.getElem?_eq_getElem (by omega)⟩
        obtain ⟨z1, z2, z3, z4⟩ := e1 b w' hw
        show ev_Run G l d bc bs mRu_inForce 5 [some (.ref (ad r)), some (.int c), some (.int D), some (.int (nI b)), some (.int (nI j)), w] [] h n P
        refine ev_iload dRu_inForce_5 rfl ?_
        refine ev_aload_n dRu_inForce_7 rfl rfl ?_
        refine ev_get dRu_inForce_8 fRu_24 h0 rfl ?_
        refine ev_icmp_ge (tgt := 78) dRu_inForce_11 (by decide) (fun c11 => False.elim (absurd c11 (nI_ge (by omega) (by omega)))) (fun c11 => ?_)
        refine ev_aload_n dRu_inForce_14 rfl rfl ?_
        refine ev_get dRu_inForce_15 fRu_11 h0 rfl ?_
        refine ev_iload dRu_inForce_18 rfl ?_
        refine ev_iald dRu_inForce_20 h1 rfl rfl (by omega) (by decide) ?_
        refine ev_top (x1) ?_
        refine ev_iload_n dRu_inForce_21 rfl rfl ?_
        refine ev_icmp_ne (tgt := 40) dRu_inForce_22 (by decide) (fun c22 => ?_) (fun c22 => ?_)
        · refine ev_iconst (v := nI 0) dRu_inForce_40 (by decide) ?_
          refine ev_istore dRu_inForce_41 (by decide) ?_
          refine ev_iload dRu_inForce_43 rfl ?_
          refine ev_if_eq (tgt := 72) dRu_inForce_45 (by decide) (fun c45 => ?_) (fun c45 => absurd ((by decide)) c45)
          refine ev_iinc dRu_inForce_72 rfl (ev_inc1 _) (by decide) ?_
          refine ev_goto (tgt := 5) dRu_inForce_75 (by decide) ?_
          rw [frc_no hu (fun z => c22 z.1), hf] at hi
          exact hi _
        · refine ev_aload_n dRu_inForce_25 rfl rfl ?_
          refine ev_get dRu_inForce_26 fRu_21 h0 rfl ?_
          refine ev_iload dRu_inForce_29 rfl ?_
          refine ev_iald dRu_inForce_31 h4 rfl rfl (by omega) (by decide) ?_
          refine ev_top (x4) ?_
          refine ev_iload_n dRu_inForce_32 rfl rfl ?_
          refine ev_icmp_gt (tgt := 40) dRu_inForce_33 (by decide) (fun c33 => ?_) (fun c33 => ?_)
          · refine ev_iconst (v := nI 0) dRu_inForce_40 (by decide) ?_
            refine ev_istore dRu_inForce_41 (by decide) ?_
            refine ev_iload dRu_inForce_43 rfl ?_
            refine ev_if_eq (tgt := 72) dRu_inForce_45 (by decide) (fun c45 => ?_) (fun c45 => absurd ((by decide)) c45)
            refine ev_iinc dRu_inForce_72 rfl (ev_inc1 _) (by decide) ?_
            refine ev_goto (tgt := 5) dRu_inForce_75 (by decide) ?_
            rw [frc_no hu (fun z => iI_le_nlt z.2 c33), hf] at hi
            exact hi _
          · refine ev_iconst (v := nI 1) dRu_inForce_36 (by decide) ?_
            refine ev_goto (tgt := 41) dRu_inForce_37 (by decide) ?_
            refine ev_istore dRu_inForce_41 (by decide) ?_
            refine ev_iload dRu_inForce_43 rfl ?_
            refine ev_if_eq (tgt := 72) dRu_inForce_45 (by decide) (fun c45 => False.elim (absurd c45 (by decide))) (fun c45 => ?_)
            refine ev_iload_n dRu_inForce_48 rfl rfl ?_
            refine ev_iconst (v := -1) dRu_inForce_49 (by decide) ?_
            refine ev_icmp_eq (tgt := 69) dRu_inForce_50 (by decide) (fun c50 => False.elim (absurd c50 (nI_ne1 (by omega)))) (fun c50 => ?_)
            refine ev_aload_n dRu_inForce_53 rfl rfl ?_
            refine ev_get dRu_inForce_54 fRu_21 h0 rfl ?_
            refine ev_iload dRu_inForce_57 rfl ?_
            refine ev_iald dRu_inForce_59 h4 rfl rfl (by omega) (by decide) ?_
            refine ev_top (x4) ?_
            refine ev_aload_n dRu_inForce_60 rfl rfl ?_
            refine ev_get dRu_inForce_61 fRu_21 h0 rfl ?_
            refine ev_iload_n dRu_inForce_64 rfl rfl ?_
            refine ev_iald dRu_inForce_65 h4 rfl rfl (by omega) (by decide) ?_
            refine ev_top (z4) ?_
            refine ev_icmp_lt (tgt := 72) dRu_inForce_66 (by decide) (fun c66 => ?_) (fun c66 => ?_)
            · refine ev_iinc dRu_inForce_72 rfl (ev_inc1 _) (by decide) ?_
              refine ev_goto (tgt := 5) dRu_inForce_75 (by decide) ?_
              rw [frc_up hu ⟨c22, iI_nlt c33⟩ hf hw, if_neg (fun z => iI_le_nlt z c66)] at hi
              exact hi _
            · refine ev_iload dRu_inForce_69 rfl ?_
              refine ev_istore_n dRu_inForce_71 rfl (by decide) ?_
              refine ev_iinc dRu_inForce_72 rfl (ev_inc1 _) (by decide) ?_
              refine ev_goto (tgt := 5) dRu_inForce_75 (by decide) ?_
              rw [frc_up hu ⟨c22, iI_nlt c33⟩ hf hw, if_pos (iI_nlt c66)] at hi
              exact hi _
  refine ev_iconst (v := -1) dRu_inForce_0 (by decide) ?_
  refine ev_istore_n dRu_inForce_1 rfl (by decide) ?_
  refine ev_iconst (v := nI 0) dRu_inForce_2 (by decide) ?_
  refine ev_istore dRu_inForce_3 (by decide) ?_
  exact loop us.length 0 none (by omega)
set_option maxRecDepth 20000 in
theorem Ru_allows_ok {i : Nat} {u : sU} {x : Int32} (hL : Ru h ad r us) (hi : us[i]? = some u) (ht : u.2.1 ≤ x → x ≤ u.2.2.1 → P (some (.int (nI 1))) h n) (hf : ¬ (u.2.1 ≤ x ∧ x ≤ u.2.2.1) → P (some (.int (nI 0))) h n) : ev_Run G l d bc bs mRu_allows 0 [some (.ref (ad r)), some (.int (nI i)), some (.int x)] [] h n P := by
  obtain ⟨f1, f2, f3, f4, h0, h1, h2, h3, h4, l1, e1⟩ := hL
  have hil : i < us.length := (List.getElem?_eq_some_iff.mp hi).1
  obtain ⟨x1, x2, x3, x4⟩ := e1 i u hi
  refine ev_iload_n dRu_allows_0 rfl rfl ?_
  refine ev_if_lt (tgt := 36) dRu_allows_1 (by decide) (fun c1 => False.elim (absurd c1 (nI_pos (by omega)))) (fun c1 => ?_)
  refine ev_iload_n dRu_allows_4 rfl rfl ?_
  refine ev_aload_n dRu_allows_5 rfl rfl ?_
  refine ev_get dRu_allows_6 fRu_24 h0 rfl ?_
  refine ev_icmp_ge (tgt := 36) dRu_allows_9 (by decide) (fun c9 => False.elim (absurd c9 (nI_ge (by omega) (by omega)))) (fun c9 => ?_)
  refine ev_iload_n dRu_allows_12 rfl rfl ?_
  refine ev_aload_n dRu_allows_13 rfl rfl ?_
  refine ev_get dRu_allows_14 fRu_15 h0 rfl ?_
  refine ev_iload_n dRu_allows_17 rfl rfl ?_
  refine ev_iald dRu_allows_18 h2 rfl rfl (by omega) (by decide) ?_
  refine ev_top (x2) ?_
  refine ev_icmp_lt (tgt := 36) dRu_allows_19 (by decide) (fun c19 => ?_) (fun c19 => ?_)
  · refine ev_iconst (v := nI 0) dRu_allows_36 (by decide) ?_
    refine ev_iret dRu_allows_37 rfl rfl ?_
    exact hf (fun z => iI_le_nlt z.1 c19)
  · refine ev_iload_n dRu_allows_22 rfl rfl ?_
    refine ev_aload_n dRu_allows_23 rfl rfl ?_
    refine ev_get dRu_allows_24 fRu_18 h0 rfl ?_
    refine ev_iload_n dRu_allows_27 rfl rfl ?_
    refine ev_iald dRu_allows_28 h3 rfl rfl (by omega) (by decide) ?_
    refine ev_top (x3) ?_
    refine ev_icmp_gt (tgt := 36) dRu_allows_29 (by decide) (fun c29 => ?_) (fun c29 => ?_)
    · refine ev_iconst (v := nI 0) dRu_allows_36 (by decide) ?_
      refine ev_iret dRu_allows_37 rfl rfl ?_
      exact hf (fun z => iI_le_nlt z.2 c29)
    · refine ev_iconst (v := nI 1) dRu_allows_32 (by decide) ?_
      refine ev_goto (tgt := 37) dRu_allows_33 (by decide) ?_
      refine ev_iret dRu_allows_37 rfl rfl ?_
      exact ht (iI_nlt c19) (iI_nlt c29)
end RU
