theorem dgs_len (n v : Nat) : (dgs n v).length = n := by simp [dgs]
theorem dgs_get {n v i : Nat} (h : i < n) : (dgs n v)[i]? = some (nI (48 + v / 10 ^ (n - 1 - i) % 10)) := by
  simp [dgs, h]
theorem nI_m1 (c : Nat) : nI (c + 1) - nI 1 + Int32.ofInt (-1) = nI c - nI 1 := by
  rw [show nI (c + 1) - nI 1 = nI c from nI_pred c, show (Int32.ofInt (-1)) = -1 from rfl, Int32.sub_eq_add_neg]; rfl
def ppr (c b : Nat) (ls : sL) : List Int32 := dgs (ndg 17 c) c ++ [nI 47] ++ dgs (ndg 17 b) b ++ ls.flatMap (fun p => [nI 32] ++ dgs (ndg 17 p.1) p.1 ++ [nI 58] ++ dgs (ndg 17 p.2) p.2)
section PG
variable {G : xG} {l : Launch} {d bc bs : Nat} {h : xH} {n : Nat} {P : Option Value → xH → Nat → Prop} {b r N : Nat} {ys : List Int32}
set_option maxRecDepth 20000 in
theorem By_digitsOf_ok {v : Nat} (hv : v < 10 ^ 18) (hk : P (some (.int (nI (ndg 17 v)))) h n) : ev_Run G l d bc bs mBy_digitsOf 0 [some (.long (lN v)), none, none, none, none] [] h n P := by
  have loop : ∀ e j, j + e = 18 → 1 ≤ j → (1 < j → 10 ^ (j - 1) ≤ v) → ev_Run G l d bc bs mBy_digitsOf 8 [some (.long (lN v)), none, some (.int (nI j)), some (.long (lN (v / 10 ^ j))), none] [] h n P := by
    intro e
    induction e with
    | zero =>
      intro j hj h1 h2
      have : j = 18 := by omega
      subst this
      have h0 : v / 10 ^ 18 = 0 := Nat.div_eq_of_lt hv
      rw [h0]
      refine ev_lload_n dBy_digitsOf_8 rfl rfl ?_
      refine ev_lconst (v := lN 0) dBy_digitsOf_9 (by decide) ?_
      refine ev_lcmp_le (tgt := 32) dBy_digitsOf_10 dBy_digitsOf_11 (by decide) (fun c10 => ?_) (fun c10 => absurd (Int64.le_refl _) c10)
      refine ev_iload_n dBy_digitsOf_32 rfl rfl ?_
      refine ev_iret dBy_digitsOf_33 rfl rfl ?_
      rw [ndg_eq hv hv (by omega) h2] at hk
      exact hk
    | succ e ih =>
      intro j hj h1 h2
      have hdl : v / 10 ^ j ≤ v := Nat.div_le_self _ _
      have hi := ih (j + 1) (by omega) (by omega)
      rw [Nat.pow_succ, ← Nat.div_div_eq_div_mul] at hi
      rcases Nat.lt_or_ge v (10 ^ j) with q | q
      · rw [Nat.div_eq_of_lt q]
        refine ev_lload_n dBy_digitsOf_8 rfl rfl ?_
        refine ev_lconst (v := lN 0) dBy_digitsOf_9 (by decide) ?_
        refine ev_lcmp_le (tgt := 32) dBy_digitsOf_10 dBy_digitsOf_11 (by decide) (fun c10 => ?_) (fun c10 => absurd (Int64.le_refl _) c10)
        refine ev_iload_n dBy_digitsOf_32 rfl rfl ?_
        refine ev_iret dBy_digitsOf_33 rfl rfl ?_
        rw [ndg_eq hv q h1 h2] at hk
        exact hk
      · have h3 : 1 ≤ v / 10 ^ j := (Nat.one_le_div_iff (Nat.pow_pos (by decide))).mpr q
        refine ev_lload_n dBy_digitsOf_8 rfl rfl ?_
        refine ev_lconst (v := lN 0) dBy_digitsOf_9 (by decide) ?_
        refine ev_lcmp_le (tgt := 32) dBy_digitsOf_10 dBy_digitsOf_11 (by decide) (fun c10 => False.elim (absurd c10 (lN_pos h3 (by omega)))) (fun c10 => ?_)
        refine ev_iload_n dBy_digitsOf_14 rfl rfl ?_
        refine ev_bipush (v := nI 19) dBy_digitsOf_15 (by decide) ?_
        refine ev_icmp_ge (tgt := 32) dBy_digitsOf_17 (by decide) (fun c17 => False.elim (absurd c17 (nI_ge (by omega) (by decide)))) (fun c17 => ?_)
        refine ev_lload_n dBy_digitsOf_20 rfl rfl ?_
        refine ev_ldc2 (v := lN 10) dBy_digitsOf_21 qBy_29 ?_
        refine ev_ldiv dBy_digitsOf_24 (by decide) ?_
        refine ev_topl (pk_lDiv (b := 10) (by omega) (by decide) (by decide)) ?_
        refine ev_lstore_n dBy_digitsOf_25 rfl (by decide) ?_
        refine ev_iinc dBy_digitsOf_26 rfl (ev_inc1 _) (by decide) ?_
        refine ev_goto (tgt := 8) dBy_digitsOf_29 (by decide) ?_
        exact hi (fun _ => by rw [Nat.add_sub_cancel]; exact q)
  refine ev_iconst (v := nI 1) dBy_digitsOf_0 (by decide) ?_
  refine ev_istore_n dBy_digitsOf_1 rfl (by decide) ?_
  refine ev_lload_n dBy_digitsOf_2 rfl rfl ?_
  refine ev_ldc2 (v := lN 10) dBy_digitsOf_3 qBy_29 ?_
  refine ev_ldiv dBy_digitsOf_6 (by decide) ?_
  refine ev_topl (pk_lDiv (b := 10) (by omega) (by decide) (by decide)) ?_
  refine ev_lstore_n dBy_digitsOf_7 rfl (by decide) ?_
  have := loop 17 1 (by omega) (by omega) (fun z => absurd z (by omega))
  rw [Nat.pow_one] at this
  exact this
set_option maxRecDepth 20000 in
set_option maxHeartbeats 1000000 in
theorem By_putNumber_ok {v : Nat} (hB : By h b r N ys) (hv : v < 10 ^ 18) (hN : ys.length + ndg 17 v ≤ N) (hk : ∀ h', By h' b r N (ys ++ dgs (ndg 17 v) v) → hp_off [b, r] h h' → P none h' n) : ev_Run G l (d + 1) bc bs mBy_putNumber 0 [some (.ref b), some (.long (lN v)), none, none, none, none, none] [] h n P := by
  have hne := hB.ne
  obtain ⟨f, h1, h2, h3, h4, h5⟩ := id hB
  obtain ⟨n1, n2, n3, -⟩ := ndg_spec 17 v hv
  generalize hnd : ndg 17 v = nd at *
  have loop : ∀ m f' h', m ≤ nd → h' b = some (.inr (0, [.ref r, .int (nI ys.length)])) → h' r = some (.inl (0, N, .inl f')) → (∀ i, i < ys.length → f' i = f i) → (∀ i, m ≤ i → i < nd → f' (ys.length + i) = nI (48 + v / 10 ^ (nd - 1 - i) % 10)) → hp_off [b, r] h h' → ev_Run G l (d + 1) bc bs mBy_putNumber 34 [some (.ref b), some (.long (lN v)), none, some (.int (nI (ys.length + nd))), some (.long (lN (v / 10 ^ (nd - m)))), none, some (.int (nI (ys.length + m) - nI 1))] [] h' n P := by
    intro m
    induction m with
    | zero =>
      intro f' h' hm i1 i2 hlo hhi ho
      refine ev_iload dBy_putNumber_34 rfl ?_
      refine ev_aload_n dBy_putNumber_36 rfl rfl ?_
      refine ev_get dBy_putNumber_37 fBy_21 i1 rfl ?_
      refine ev_icmp_lt (tgt := 74) dBy_putNumber_40 (by decide) (fun c40 => ?_) (fun c40 => absurd ((by rw [Int32.lt_iff_toInt_lt, pk_sub_toInt (by omega) (by omega), nI_toInt (by omega)]; omega)) c40)
      refine ev_aload_n dBy_putNumber_74 rfl rfl ?_
      refine ev_iload_n dBy_putNumber_75 rfl rfl ?_
      refine ev_put dBy_putNumber_76 fBy_21 tBy_1 i1 rfl rfl (Nat.le_of_ble_eq_true rfl) ?_
      refine ev_vret dBy_putNumber_79 rfl ?_
      refine hk _ ⟨f', (hp_set_self _ _ _).trans (by simp [dgs_len]), (hp_set_ne _ _ (Ne.symm hne)).trans i2, by simp [dgs_len]; omega, h4, fun k w hw => ?_⟩ (ho.set (by simp))
      rcases Nat.lt_or_ge k ys.length with q | q
      · rw [List.getElem?_append_left q] at hw; rw [hlo k q]; exact h5 k w hw
      · rw [List.getElem?_append_right q] at hw; have hkl : k - ys.length < nd := (by have := (List.getElem?_eq_some_iff.mp hw).1; rw [dgs_len] at this; exact this); rw [dgs_get hkl] at hw; cases hw; have := hhi (k - ys.length) (by omega) hkl; rw [show ys.length + (k - ys.length) = k by omega] at this; exact this
    | succ m ih =>
      intro f' h' hm i1 i2 hlo hhi ho
      have hdl : v / 10 ^ (nd - (m + 1)) ≤ v := Nat.div_le_self _ _
      have e0 : nI (ys.length + (m + 1)) - nI 1 = nI (ys.length + m) := nI_pred (ys.length + m)
      have e1 : v / 10 ^ (nd - (m + 1)) / 10 = v / 10 ^ (nd - m) := by
        rw [Nat.div_div_eq_div_mul, ← Nat.pow_succ, show (nd - (m + 1)).succ = nd - m by omega]
      have hi := ih (upd f' (ys.length + m) (nI (48 + v / 10 ^ (nd - 1 - m) % 10))) (hp_set h' r (.inl (0, N, .inl (upd f' (ys.length + m) (nI (48 + v / 10 ^ (nd - 1 - m) % 10)))))) (by omega) ((hp_set_ne _ _ hne).trans i1) (hp_set_self _ _ _) (fun i hi => by rw [pk_un (by omega)]; exact hlo i hi) (fun i h1 h2 => by
        by_cases hq : i = m
        · subst hq; exact pk_us
        · rw [pk_un (by omega)]; exact hhi i (by omega) h2) (ho.set (by simp))
      rw [← e1, show nd - 1 - m = nd - (m + 1) by omega] at hi
      refine ev_iload dBy_putNumber_34 rfl ?_
      refine ev_aload_n dBy_putNumber_36 rfl rfl ?_
      refine ev_get dBy_putNumber_37 fBy_21 i1 rfl ?_
      refine ev_icmp_lt (tgt := 74) dBy_putNumber_40 (by decide) (fun c40 => False.elim (absurd c40 (by rw [e0]; exact nI_nlt (by omega) (by omega)))) (fun c40 => ?_)
      refine ev_aload_n dBy_putNumber_43 rfl rfl ?_
      refine ev_get dBy_putNumber_44 fBy_15 i1 rfl ?_
      refine ev_iload dBy_putNumber_47 rfl ?_
      refine ev_bipush (v := nI 48) dBy_putNumber_49 (by decide) ?_
      refine ev_lload dBy_putNumber_51 rfl ?_
      refine ev_ldc2 (v := lN 10) dBy_putNumber_53 qBy_29 ?_
      refine ev_lrem dBy_putNumber_56 (by decide) ?_
      refine ev_topl (pk_lRem (b := 10) (by omega) (by decide) (by decide)) ?_
      refine ev_l2i dBy_putNumber_57 ?_
      refine ev_top (lN_i _) ?_
      refine ev_iadd dBy_putNumber_58 ?_
      refine ev_top (nI_add _ _) ?_
      refine ev_iast dBy_putNumber_59 i2 rfl e0 (by omega) (by omega) ?_
      refine ev_lload dBy_putNumber_60 rfl ?_
      refine ev_ldc2 (v := lN 10) dBy_putNumber_62 qBy_29 ?_
      refine ev_ldiv dBy_putNumber_65 (by decide) ?_
      refine ev_topl (pk_lDiv (b := 10) (by omega) (by decide) (by decide)) ?_
      refine ev_lstore dBy_putNumber_66 (by decide) ?_
      refine ev_iinc dBy_putNumber_68 rfl (nI_m1 (ys.length + m)) (by decide) ?_
      refine ev_goto (tgt := 34) dBy_putNumber_71 (by decide) ?_
      exact hi
  refine ev_aload_n dBy_putNumber_0 rfl rfl ?_
  refine ev_get dBy_putNumber_1 fBy_21 h1 rfl ?_
  refine ev_lload_n dBy_putNumber_4 rfl rfl ?_
  refine cz_By_digitsOf dBy_putNumber_5 lBy_25 (Nat.le_of_ble_eq_true rfl) (By_digitsOf_ok hv ?_)
  rw [hnd]
  refine ev_iadd dBy_putNumber_8 ?_
  refine ev_top (nI_add _ _) ?_
  refine ev_istore_n dBy_putNumber_9 rfl (by decide) ?_
  refine ev_lload_n dBy_putNumber_10 rfl rfl ?_
  refine ev_lconst (v := lN 0) dBy_putNumber_11 (by decide) ?_
  refine ev_lcmp_lt (tgt := 25) dBy_putNumber_12 dBy_putNumber_13 (by decide) (fun c12 => False.elim (absurd c12 (by rw [pk_lLT (by omega) (by decide)]; omega))) (fun c12 => ?_)
  refine ev_iload_n dBy_putNumber_16 rfl rfl ?_
  refine ev_aload_n dBy_putNumber_17 rfl rfl ?_
  refine ev_get dBy_putNumber_18 fBy_15 h1 rfl ?_
  refine ev_alen dBy_putNumber_21 h2 rfl ?_
  refine ev_icmp_le (tgt := 26) dBy_putNumber_22 (by decide) (fun c22 => ?_) (fun c22 => absurd ((nI_le (show ys.length + nd ≤ N from hN) (by omega))) c22)
  refine ev_lload_n dBy_putNumber_26 rfl rfl ?_
  refine ev_lstore dBy_putNumber_27 (by decide) ?_
  refine ev_iload_n dBy_putNumber_29 rfl rfl ?_
  refine ev_iconst (v := nI 1) dBy_putNumber_30 (by decide) ?_
  refine ev_isub dBy_putNumber_31 ?_
  refine ev_istore dBy_putNumber_32 (by decide) ?_
  have := loop nd f h (Nat.le_refl _) h1 h2 (fun _ _ => rfl) (fun i a b => absurd b (by omega)) hp_off.rf
  rw [Nat.sub_self, Nat.pow_zero, Nat.div_one] at this
  exact this
end PG
