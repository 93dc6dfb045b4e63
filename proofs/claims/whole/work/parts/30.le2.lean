abbrev in_c (cs : List Int32) (c : Int32) : Prop := ¬ c < 0 ∧ c < nI cs.length
abbrev may_c (cs : List Int32) (as : List sA) (c : Int32) (g : Int64) (y : Int32) : Prop := in_c cs c ∧ (lN 1 ≤ g ∧ g ≤ lN 1000000000) ∧ (¬ y < 0 ∧ y ≤ nI 99999) ∧ as.length < 100
def cert_s (cs : List Int32) (u : Int32) : Int32 × List Int32 := if (¬ u < 0 ∧ u ≤ nI 99999) ∧ cs.length < 10 then (nI cs.length, cs ++ [u]) else (-1, cs)
def credit_s (cs : List Int32) (as : List sA) (c : Int32) (g : Int64) (y : Int32) : Int32 × List sA := if may_c cs as c g y then (nI 1, as ++ [(c, g, y)]) else (nI 0, as)
def claim_s (cs : List Int32) (as : List sA) (c : Int32) (g : Int64) (y : Int32) : Int32 × List sA := if may_c cs as c g y then (if cs.getD c.toNatClampNeg 0 < y then (nI 1, as) else if cov as c g y then (nI 0, as ++ [(c, -g, y)]) else (nI 2, as)) else (-1, as)
def balance_s (cs : List Int32) (as : List sA) (c D : Int32) : Int64 := if in_c cs c then bal as c D else -1
abbrev le_S (ad : Nat → Nat) : List Nat := [ad 19, ad 20, ad 21, ad 22, ad 23]
section LE2
variable {G : xG} {l : Launch} {d bc bs : Nat} {h : xH} {n n0 : Nat} {P : Option Value → xH → Nat → Prop} {ad tg : Nat → Nat} {lr lq : Nat} {ts : List sT} {cs : List Int32} {as : List sA}
set_option maxRecDepth 20000 in
theorem Le_open_ok {u : Int32} (hX : XT h n0 ad tg lr lq ts) (hL : Le h ad cs as) (ht : cs.length < 10 → ∀ h', Le h' ad (cs ++ [u]) as → hp_off (le_S ad) h h' → P (some (.int (nI cs.length))) h' n) (hf : ¬ cs.length < 10 → P (some (.int (-1))) h n) : ev_Run G l d bc bs mLe_open 0 [some (.ref (ad 19)), some (.int u)] [] h n P := by
  obtain ⟨f1, f2, f3, f4, h0, h1, h2, h3, h4, l1, l2, e1, e2⟩ := hL
  have ne : ∀ j k, j < 26 → k < 26 → j ≠ k → ad j ≠ ad k := fun j k hj hk => ad_ne hX.1 (Or.inl hj) (Or.inl hk)
  refine ev_aload_n dLe_open_0 rfl rfl ?_
  refine ev_get dLe_open_1 fLe_25 h0 rfl ?_
  refine ev_aload_n dLe_open_4 rfl rfl ?_
  refine ev_get dLe_open_5 fLe_11 h0 rfl ?_
  refine ev_alen dLe_open_8 h1 rfl ?_
  refine ev_icmp_lt (tgt := 14) dLe_open_9 (by decide) (fun c9 => ?_) (fun c9 => ?_)
  · have hc : nI cs.length < nI 10 := c9
    rw [nI_ltI (by omega) (by decide)] at hc
    refine ev_aload_n dLe_open_14 rfl rfl ?_
    refine ev_get dLe_open_15 fLe_11 h0 rfl ?_
    refine ev_aload_n dLe_open_18 rfl rfl ?_
    refine ev_get dLe_open_19 fLe_25 h0 rfl ?_
    refine ev_iload_n dLe_open_22 rfl rfl ?_
    refine ev_iast dLe_open_23 h1 rfl rfl (by omega) (by decide) ?_
    refine ev_aload_n dLe_open_24 rfl rfl ?_
    refine ev_dup dLe_open_25 rfl ?_
    refine ev_get dLe_open_26 fLe_25 ((hp_set_ne _ _ (ne 19 20 (by omega) (by omega) (by omega))).trans h0) rfl ?_
    refine ev_iconst (v := nI 1) dLe_open_29 (by decide) ?_
    refine ev_iadd dLe_open_30 ?_
    refine ev_top (nI_add _ _) ?_
    refine ev_put dLe_open_31 fLe_25 tLe_1 ((hp_set_ne _ _ (ne 19 20 (by omega) (by omega) (by omega))).trans h0) rfl rfl (Nat.le_of_ble_eq_true rfl) ?_
    refine ev_aload_n dLe_open_34 rfl rfl ?_
    refine ev_get dLe_open_35 fLe_25 (hp_set_self _ _ _) rfl ?_
    refine ev_iconst (v := nI 1) dLe_open_38 (by decide) ?_
    refine ev_isub dLe_open_39 ?_
    refine ev_top (nI_pred _) ?_
    refine ev_iret dLe_open_40 rfl rfl ?_
    refine ht hc _ ⟨upd f1 cs.length u, f2, f3, f4, (hp_set_self _ _ _).trans (by simp), (hp_set_ne _ _ (ne 20 19 (by omega) (by omega) (by omega))).trans (hp_set_self _ _ _), (hp_set_ne _ _ (ne 21 19 (by omega) (by omega) (by omega))).trans ((hp_set_ne _ _ (ne 21 20 (by omega) (by omega) (by omega))).trans h2), (hp_set_ne _ _ (ne 22 19 (by omega) (by omega) (by omega))).trans ((hp_set_ne _ _ (ne 22 20 (by omega) (by omega) (by omega))).trans h3), (hp_set_ne _ _ (ne 23 19 (by omega) (by omega) (by omega))).trans ((hp_set_ne _ _ (ne 23 20 (by omega) (by omega) (by omega))).trans h4), by simp; omega, l2, fun k v hk => ?_, e2⟩ ((hp_off.rf.set (by simp)).set (by simp))
    rcases Nat.lt_or_ge k cs.length with q | q
    · rw [List.getElem?_append_left q] at hk; rw [pk_un (by omega)]; exact e1 k v hk
    · have hk1 := (List.getElem?_eq_some_iff.mp hk).1; have : k = cs.length := (by simp at hk1; omega); subst this; simp at hk; subst hk; exact pk_us
  · have hc : ¬ nI cs.length < nI 10 := c9
    rw [nI_ltI (by omega) (by decide)] at hc
    refine ev_iconst (v := -1) dLe_open_12 (by decide) ?_
    refine ev_iret dLe_open_13 rfl rfl ?_
    exact hf hc
set_option maxRecDepth 20000 in
theorem Le_enter_ok {c y : Int32} {g : Int64} (hX : XT h n0 ad tg lr lq ts) (hL : Le h ad cs as) (hlt : as.length < 100) (hk : ∀ h', Le h' ad cs (as ++ [(c, g, y)]) → hp_off (le_S ad) h h' → P none h' n) : ev_Run G l (d + 1) bc bs mLe_enter 0 [some (.ref (ad 19)), some (.int c), some (.long g), none, some (.int y)] [] h n P := by
  obtain ⟨f1, f2, f3, f4, h0, h1, h2, h3, h4, l1, l2, e1, e2⟩ := id hL
  have ne : ∀ j k, j < 26 → k < 26 → j ≠ k → ad j ≠ ad k := fun j k hj hk => ad_ne hX.1 (Or.inl hj) (Or.inl hk)
  have n02 := ne 19 21 (by omega) (by omega) (by omega)
  have n03 := ne 19 22 (by omega) (by omega) (by omega)
  have n04 := ne 19 23 (by omega) (by omega) (by omega)
  have n12 := ne 20 21 (by omega) (by omega) (by omega)
  have n13 := ne 20 22 (by omega) (by omega) (by omega)
  have n14 := ne 20 23 (by omega) (by omega) (by omega)
  have n10 := ne 20 19 (by omega) (by omega) (by omega)
  have n23 := ne 21 22 (by omega) (by omega) (by omega)
  have n24 := ne 21 23 (by omega) (by omega) (by omega)
  have n34 := ne 22 23 (by omega) (by omega) (by omega)
  refine ev_aload_n dLe_enter_0 rfl rfl ?_
  refine cz_Le_isFull dLe_enter_1 lLe_36 h0 (Nat.le_of_ble_eq_true rfl) (Le_isFull_ok hL (fun q1 => ?_) (fun q1 => ?_))
  · exact absurd q1 (by omega)
    
  · refine ev_if_ne (tgt := 48) dLe_enter_4 (by decide) (fun q9 => absurd (by decide) q9) (fun _ => ?_)
    refine ev_aload_n dLe_enter_7 rfl rfl ?_
    refine ev_get dLe_enter_8 fLe_15 h0 rfl ?_
    refine ev_aload_n dLe_enter_11 rfl rfl ?_
    refine ev_get dLe_enter_12 fLe_29 h0 rfl ?_
    refine ev_iload_n dLe_enter_15 rfl rfl ?_
    refine ev_iast dLe_enter_16 h2 rfl rfl (by omega) (by decide) ?_
    refine ev_aload_n dLe_enter_17 rfl rfl ?_
    refine ev_get dLe_enter_18 fLe_21 ((hp_set_ne _ _ n02).trans h0) rfl ?_
    refine ev_aload_n dLe_enter_21 rfl rfl ?_
    refine ev_get dLe_enter_22 fLe_29 ((hp_set_ne _ _ n02).trans h0) rfl ?_
    refine ev_lload_n dLe_enter_25 rfl rfl ?_
    refine ev_last dLe_enter_26 ((hp_set_ne _ _ (Ne.symm n24)).trans h4) rfl rfl (by omega) (by decide) ?_
    refine ev_aload_n dLe_enter_27 rfl rfl ?_
    refine ev_get dLe_enter_28 fLe_18 ((hp_set_ne _ _ n04).trans ((hp_set_ne _ _ n02).trans h0)) rfl ?_
    refine ev_aload_n dLe_enter_31 rfl rfl ?_
    refine ev_get dLe_enter_32 fLe_29 ((hp_set_ne _ _ n04).trans ((hp_set_ne _ _ n02).trans h0)) rfl ?_
    refine ev_iload dLe_enter_35 rfl ?_
    refine ev_iast dLe_enter_37 ((hp_set_ne _ _ n34).trans ((hp_set_ne _ _ (Ne.symm n23)).trans h3)) rfl rfl (by omega) (by decide) ?_
    refine ev_aload_n dLe_enter_38 rfl rfl ?_
    refine ev_dup dLe_enter_39 rfl ?_
    refine ev_get dLe_enter_40 fLe_29 ((hp_set_ne _ _ n03).trans ((hp_set_ne _ _ n04).trans ((hp_set_ne _ _ n02).trans h0))) rfl ?_
    refine ev_iconst (v := nI 1) dLe_enter_43 (by decide) ?_
    refine ev_iadd dLe_enter_44 ?_
    refine ev_top (nI_add _ _) ?_
    refine ev_put dLe_enter_45 fLe_29 tLe_5 ((hp_set_ne _ _ n03).trans ((hp_set_ne _ _ n04).trans ((hp_set_ne _ _ n02).trans h0))) rfl rfl (Nat.le_of_ble_eq_true rfl) ?_
    refine ev_vret dLe_enter_48 rfl ?_
    refine hk _ ⟨f1, upd f2 as.length c, upd f3 as.length y, vp_updL f4 as.length g, (hp_set_self _ _ _).trans (by simp), (hp_set_ne _ _ n10).trans ((hp_set_ne _ _ n13).trans ((hp_set_ne _ _ n14).trans ((hp_set_ne _ _ n12).trans h1))), (hp_set_ne _ _ (Ne.symm n02)).trans ((hp_set_ne _ _ n23).trans ((hp_set_ne _ _ n24).trans (hp_set_self _ _ _))), (hp_set_ne _ _ (Ne.symm n03)).trans (hp_set_self _ _ _), (hp_set_ne _ _ (Ne.symm n04)).trans ((hp_set_ne _ _ (Ne.symm n34)).trans (hp_set_self _ _ _)), l1, by simp; omega, e1, fun k v hk => ?_⟩ ((((hp_off.rf.set (by simp)).set (by simp)).set (by simp)).set (by simp))
    rcases Nat.lt_or_ge k as.length with q | q
    · rw [List.getElem?_append_left q] at hk; rw [pk_un (by omega), pk_un (by omega), pk_uLn (by omega)]; exact e2 k v hk
    · have hk1 := (List.getElem?_eq_some_iff.mp hk).1; have : k = as.length := (by simp at hk1; omega); subst this; simp at hk; subst hk; exact ⟨pk_us, pk_uLs, pk_us⟩
set_option maxRecDepth 20000 in
theorem BL_canEnter_ok {c y : Int32} {g : Int64} (hX : XT h n0 ad tg lr lq ts) (hL : Le h ad cs as) (ht : may_c cs as c g y → P (some (.int (nI 1))) h n) (hf : ¬ may_c cs as c g y → P (some (.int (nI 0))) h n) : ev_Run G l (d + 1) bc bs mBL_canEnter 0 [some (.ref (ad 0)), some (.int c), some (.long g), none, some (.int y)] [] h n P := by
  have h0 := hX.2.1
  have hl0 := hL.obj
  have hcl : cs.length ≤ 10 := hL.choose_spec.choose_spec.choose_spec.choose_spec.2.2.2.2.2.1
  refine ev_aload_n dBL_canEnter_0 rfl rfl ?_
  refine ev_get dBL_canEnter_1 fBL_49 h0 rfl ?_
  refine ev_iload_n dBL_canEnter_4 rfl rfl ?_
  refine cz_Le_has dBL_canEnter_5 lBL_213 hl0 (Nat.le_of_ble_eq_true rfl) (Le_has_ok hL (fun i u q1 q2 => ?_) (fun q1 => ?_))
  · have hil : i < cs.length := (List.getElem?_eq_some_iff.mp q2).1
    have hin : in_c cs c := (by rw [q1]; exact ⟨nI_pos (by omega), (nI_ltI (by omega) (by omega)).mpr hil⟩)
    refine ev_if_eq (tgt := 42) dBL_canEnter_8 (by decide) (fun q9 => absurd q9 (by decide)) (fun _ => ?_)
    refine ev_lload_n dBL_canEnter_11 rfl rfl ?_
    refine cz_BL_isWeight dBL_canEnter_12 lBL_62 (Nat.le_of_ble_eq_true rfl) (BL_isWeight_ok (fun w1 w2 => ?_) (fun w1 => ?_))
    · refine ev_if_eq (tgt := 42) dBL_canEnter_15 (by decide) (fun q9 => absurd q9 (by decide)) (fun _ => ?_)
      refine ev_iload dBL_canEnter_18 rfl ?_
      refine ev_ldc (v := nI 99999) dBL_canEnter_20 qBL_70 ?_
      refine cz_BL_isWithin dBL_canEnter_22 lBL_66 (Nat.le_of_ble_eq_true rfl) (BL_isWithin_ok (fun y1 y2 => ?_) (fun y1 => ?_))
      · refine ev_if_eq (tgt := 42) dBL_canEnter_25 (by decide) (fun q9 => absurd q9 (by decide)) (fun _ => ?_)
        refine ev_aload_n dBL_canEnter_28 rfl rfl ?_
        refine ev_get dBL_canEnter_29 fBL_49 h0 rfl ?_
        refine cz_Le_isFull dBL_canEnter_32 lBL_245 hl0 (Nat.le_of_ble_eq_true rfl) (Le_isFull_ok hL (fun q3 => ?_) (fun q3 => ?_))
        · refine ev_if_ne (tgt := 42) dBL_canEnter_35 (by decide) (fun _ => ?_) (fun q9 => absurd q9 (by decide))
          refine ev_iconst (v := nI 0) dBL_canEnter_42 (by decide) ?_
          refine ev_iret dBL_canEnter_43 rfl rfl ?_
          exact hf (fun z => absurd z.2.2.2 (by omega))
        · refine ev_if_ne (tgt := 42) dBL_canEnter_35 (by decide) (fun q9 => absurd (by decide) q9) (fun _ => ?_)
          refine ev_iconst (v := nI 1) dBL_canEnter_38 (by decide) ?_
          refine ev_goto (tgt := 43) dBL_canEnter_39 (by decide) ?_
          refine ev_iret dBL_canEnter_43 rfl rfl ?_
          exact ht ⟨hin, ⟨w1, w2⟩, ⟨y1, y2⟩, q3⟩
      · refine ev_if_eq (tgt := 42) dBL_canEnter_25 (by decide) (fun _ => ?_) (fun q9 => absurd (by decide) q9)
        refine ev_iconst (v := nI 0) dBL_canEnter_42 (by decide) ?_
        refine ev_iret dBL_canEnter_43 rfl rfl ?_
        exact hf (fun z => y1.elim z.2.2.1.1 (fun q => iI_le_nlt z.2.2.1.2 q))
    · refine ev_if_eq (tgt := 42) dBL_canEnter_15 (by decide) (fun _ => ?_) (fun q9 => absurd (by decide) q9)
      refine ev_iconst (v := nI 0) dBL_canEnter_42 (by decide) ?_
      refine ev_iret dBL_canEnter_43 rfl rfl ?_
      exact hf (fun z => w1 z.2.1)
  · refine ev_if_eq (tgt := 42) dBL_canEnter_8 (by decide) (fun _ => ?_) (fun q9 => absurd (by decide) q9)
    refine ev_iconst (v := nI 0) dBL_canEnter_42 (by decide) ?_
    refine ev_iret dBL_canEnter_43 rfl rfl ?_
    exact hf (fun z => q1.elim z.1.1 (fun q => iI_le_nlt q z.1.2))
set_option maxRecDepth 20000 in
theorem BL_certificate_ok {u : Int32} (hX : XT h n0 ad tg lr lq ts) (hL : Le h ad cs as) (hk : ∀ h', Le h' ad (cert_s cs u).2 as → hp_off (le_S ad) h h' → P (some (.int (cert_s cs u).1)) h' n) : ev_Run G l (d + 1) bc bs mBL_certificate 0 [some (.ref (ad 0)), some (.int u)] [] h n P := by
  have h0 := hX.2.1
  have hl0 := hL.obj
  have refuse : ¬ ((¬ u < 0 ∧ u ≤ nI 99999) ∧ cs.length < 10) → P (some (.int (-1))) h n := by
    intro hc
    rw [cert_s, if_neg hc] at hk
    exact hk h hL hp_off.rf
  refine ev_iload_n dBL_certificate_0 rfl rfl ?_
  refine ev_ldc (v := nI 99999) dBL_certificate_1 qBL_70 ?_
  refine cz_BL_isWithin dBL_certificate_3 lBL_66 (Nat.le_of_ble_eq_true rfl) (BL_isWithin_ok (fun y1 y2 => ?_) (fun y1 => ?_))
  · refine ev_if_eq (tgt := 20) dBL_certificate_6 (by decide) (fun q9 => absurd q9 (by decide)) (fun _ => ?_)
    refine ev_aload_n dBL_certificate_9 rfl rfl ?_
    refine ev_get dBL_certificate_10 fBL_49 h0 rfl ?_
    refine ev_iload_n dBL_certificate_13 rfl rfl ?_
    refine cz_Le_open dBL_certificate_14 lBL_196 hl0 (Nat.le_of_ble_eq_true rfl) (Le_open_ok hX hL (fun q1 h2 k1 k2 => ?_) (fun q1 => ?_))
    · refine ev_goto (tgt := 21) dBL_certificate_17 (by decide) ?_
      refine ev_iret dBL_certificate_21 rfl rfl ?_
      rw [cert_s, if_pos ⟨⟨y1, y2⟩, q1⟩] at hk
      exact hk _ k1 k2
    · refine ev_goto (tgt := 21) dBL_certificate_17 (by decide) ?_
      refine ev_iret dBL_certificate_21 rfl rfl ?_
      exact refuse (fun z => q1 z.2)
  · refine ev_if_eq (tgt := 20) dBL_certificate_6 (by decide) (fun _ => ?_) (fun q9 => absurd (by decide) q9)
    refine ev_iconst (v := -1) dBL_certificate_20 (by decide) ?_
    refine ev_iret dBL_certificate_21 rfl rfl ?_
    exact refuse (fun z => y1.elim z.1.1 (fun q => iI_le_nlt z.1.2 q))
set_option maxRecDepth 20000 in
theorem BL_credit_ok {c y : Int32} {g : Int64} (hX : XT h n0 ad tg lr lq ts) (hL : Le h ad cs as) (hk : ∀ h', Le h' ad cs (credit_s cs as c g y).2 → hp_off (le_S ad) h h' → P (some (.int (credit_s cs as c g y).1)) h' n) : ev_Run G l (d + 2) bc bs mBL_credit 0 [some (.ref (ad 0)), some (.int c), some (.long g), none, some (.int y)] [] h n P := by
  have h0 := hX.2.1
  have hl0 := hL.obj
  refine ev_aload_n dBL_credit_0 rfl rfl ?_
  refine ev_iload_n dBL_credit_1 rfl rfl ?_
  refine ev_lload_n dBL_credit_2 rfl rfl ?_
  refine ev_iload dBL_credit_3 rfl ?_
  refine cz_BL_canEnter dBL_credit_5 lBL_199 h0 (Nat.le_of_ble_eq_true rfl) (BL_canEnter_ok hX hL (fun q1 => ?_) (fun q1 => ?_))
  · refine ev_if_ne (tgt := 13) dBL_credit_8 (by decide) (fun _ => ?_) (fun q9 => absurd q9 (by decide))
    refine ev_aload_n dBL_credit_13 rfl rfl ?_
    refine ev_get dBL_credit_14 fBL_49 h0 rfl ?_
    refine ev_iload_n dBL_credit_17 rfl rfl ?_
    refine ev_lload_n dBL_credit_18 rfl rfl ?_
    refine ev_iload dBL_credit_19 rfl ?_
    refine cz_Le_enter dBL_credit_21 lBL_203 hl0 (Nat.le_of_ble_eq_true rfl) (Le_enter_ok hX hL q1.2.2.2 (fun h2 k1 k2 => ?_))
    refine ev_iconst (v := nI 1) dBL_credit_24 (by decide) ?_
    refine ev_iret dBL_credit_25 rfl rfl ?_
    rw [credit_s, if_pos q1] at hk
    exact hk _ k1 k2
  · refine ev_if_ne (tgt := 13) dBL_credit_8 (by decide) (fun q9 => absurd (by decide) q9) (fun _ => ?_)
    refine ev_iconst (v := nI 0) dBL_credit_11 (by decide) ?_
    refine ev_iret dBL_credit_12 rfl rfl ?_
    rw [credit_s, if_neg q1] at hk
    exact hk h hL hp_off.rf
set_option maxRecDepth 20000 in
theorem BL_claim_ok {c y : Int32} {g : Int64} (hX : XT h n0 ad tg lr lq ts) (hL : Le h ad cs as) (hk : ∀ h', Le h' ad cs (claim_s cs as c g y).2 → hp_off (le_S ad) h h' → P (some (.int (claim_s cs as c g y).1)) h' n) : ev_Run G l (d + 2) bc bs mBL_claim 0 [some (.ref (ad 0)), some (.int c), some (.long g), none, some (.int y)] [] h n P := by
  have h0 := hX.2.1
  have hl0 := hL.obj
  have hcl : cs.length ≤ 10 := hL.choose_spec.choose_spec.choose_spec.choose_spec.2.2.2.2.2.1
  refine ev_aload_n dBL_claim_0 rfl rfl ?_
  refine ev_iload_n dBL_claim_1 rfl rfl ?_
  refine ev_lload_n dBL_claim_2 rfl rfl ?_
  refine ev_iload dBL_claim_3 rfl ?_
  refine cz_BL_canEnter dBL_claim_5 lBL_199 h0 (Nat.le_of_ble_eq_true rfl) (BL_canEnter_ok hX hL (fun q1 => ?_) (fun q1 => ?_))
  · obtain ⟨i, hi, hci⟩ := ix_in (x := c) (n := cs.length) (by omega) q1.1.1 (iI_lt_nle q1.1.2)
    subst hci
    have hu : cs[i]? = some (cs.getD (nI i).toNatClampNeg 0) := (by rw [nI_clamp (by omega)]; simp [hi])
    rw [claim_s, if_pos q1] at hk
    refine ev_if_ne (tgt := 13) dBL_claim_8 (by decide) (fun _ => ?_) (fun q9 => absurd q9 (by decide))
    refine ev_aload_n dBL_claim_13 rfl rfl ?_
    refine ev_get dBL_claim_14 fBL_49 h0 rfl ?_
    refine ev_iload_n dBL_claim_17 rfl rfl ?_
    refine ev_iload dBL_claim_18 rfl ?_
    refine cz_Le_isOver dBL_claim_20 lBL_207 hl0 (Nat.le_of_ble_eq_true rfl) (Le_isOver_ok hL hu (fun q2 => ?_) (fun q2 => ?_))
    · refine ev_if_eq (tgt := 28) dBL_claim_23 (by decide) (fun q9 => absurd q9 (by decide)) (fun _ => ?_)
      refine ev_iconst (v := nI 1) dBL_claim_26 (by decide) ?_
      refine ev_iret dBL_claim_27 rfl rfl ?_
      rw [if_pos q2] at hk
      exact hk h hL hp_off.rf
    · refine ev_if_eq (tgt := 28) dBL_claim_23 (by decide) (fun _ => ?_) (fun q9 => absurd (by decide) q9)
      refine ev_aload_n dBL_claim_28 rfl rfl ?_
      refine ev_get dBL_claim_29 fBL_49 h0 rfl ?_
      refine ev_iload_n dBL_claim_32 rfl rfl ?_
      refine ev_lload_n dBL_claim_33 rfl rfl ?_
      refine ev_iload dBL_claim_34 rfl ?_
      refine cz_Le_covers dBL_claim_36 lBL_210 hl0 (Nat.le_of_ble_eq_true rfl) (Le_covers_ok hL (fun q3 => ?_) (fun q3 => ?_))
      · refine ev_if_ne (tgt := 44) dBL_claim_39 (by decide) (fun _ => ?_) (fun q9 => absurd q9 (by decide))
        refine ev_aload_n dBL_claim_44 rfl rfl ?_
        refine ev_get dBL_claim_45 fBL_49 h0 rfl ?_
        refine ev_iload_n dBL_claim_48 rfl rfl ?_
        refine ev_lload_n dBL_claim_49 rfl rfl ?_
        refine ev_lneg dBL_claim_50 ?_
        refine ev_iload dBL_claim_51 rfl ?_
        refine cz_Le_enter dBL_claim_53 lBL_203 hl0 (Nat.le_of_ble_eq_true rfl) (Le_enter_ok hX hL q1.2.2.2 (fun h2 k1 k2 => ?_))
        refine ev_iconst (v := nI 0) dBL_claim_56 (by decide) ?_
        refine ev_iret dBL_claim_57 rfl rfl ?_
        rw [if_neg (iI_le_nlt q2), if_pos q3] at hk
        exact hk _ k1 k2
      · refine ev_if_ne (tgt := 44) dBL_claim_39 (by decide) (fun q9 => absurd (by decide) q9) (fun _ => ?_)
        refine ev_iconst (v := nI 2) dBL_claim_42 (by decide) ?_
        refine ev_iret dBL_claim_43 rfl rfl ?_
        rw [if_neg (iI_le_nlt q2), if_neg q3] at hk
        exact hk h hL hp_off.rf
  · refine ev_if_ne (tgt := 13) dBL_claim_8 (by decide) (fun q9 => absurd (by decide) q9) (fun _ => ?_)
    refine ev_iconst (v := -1) dBL_claim_11 (by decide) ?_
    refine ev_iret dBL_claim_12 rfl rfl ?_
    rw [claim_s, if_neg q1] at hk
    exact hk h hL hp_off.rf
set_option maxRecDepth 20000 in
theorem BL_balance_ok {c D : Int32} (hX : XT h n0 ad tg lr lq ts) (hL : Le h ad cs as) (hk : P (some (.long (balance_s cs as c D))) h n) : ev_Run G l (d + 1) bc bs mBL_balance 0 [some (.ref (ad 0)), some (.int c), some (.int D)] [] h n P := by
  have h0 := hX.2.1
  have hl0 := hL.obj
  have hcl : cs.length ≤ 10 := hL.choose_spec.choose_spec.choose_spec.choose_spec.2.2.2.2.2.1
  refine ev_aload_n dBL_balance_0 rfl rfl ?_
  refine ev_get dBL_balance_1 fBL_49 h0 rfl ?_
  refine ev_iload_n dBL_balance_4 rfl rfl ?_
  refine cz_Le_has dBL_balance_5 lBL_213 hl0 (Nat.le_of_ble_eq_true rfl) (Le_has_ok hL (fun i u q1 q2 => ?_) (fun q1 => ?_))
  · have hil : i < cs.length := (List.getElem?_eq_some_iff.mp q2).1
    have hin : in_c cs c := (by rw [q1]; exact ⟨nI_pos (by omega), (nI_ltI (by omega) (by omega)).mpr hil⟩)
    refine ev_if_eq (tgt := 23) dBL_balance_8 (by decide) (fun q9 => absurd q9 (by decide)) (fun _ => ?_)
    refine ev_aload_n dBL_balance_11 rfl rfl ?_
    refine ev_get dBL_balance_12 fBL_49 h0 rfl ?_
    refine ev_iload_n dBL_balance_15 rfl rfl ?_
    refine ev_iload_n dBL_balance_16 rfl rfl ?_
    refine cz_Le_sumUpTo dBL_balance_17 lBL_216 hl0 (Nat.le_of_ble_eq_true rfl) (Le_sumUpTo_ok hL ?_)
    refine ev_goto (tgt := 26) dBL_balance_20 (by decide) ?_
    refine ev_lret dBL_balance_26 rfl ?_
    rw [balance_s, if_pos hin] at hk
    exact hk
  · refine ev_if_eq (tgt := 23) dBL_balance_8 (by decide) (fun _ => ?_) (fun q9 => absurd (by decide) q9)
    refine ev_ldc2 (v := -1) dBL_balance_23 qBL_122 ?_
    refine ev_lret dBL_balance_26 rfl ?_
    rw [balance_s, if_neg (fun z => q1.elim z.1 (fun q => iI_le_nlt q z.2))] at hk
    exact hk
end LE2
