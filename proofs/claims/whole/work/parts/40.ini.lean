/-! constructors of the small things -/
section INI
variable {G : xG} {l : Launch} {d bc bs : Nat} {h : xH} {n : Nat} {P : Option Value → xH → Nat → Prop} {a : Nat}
abbrev iar (N : Nat) : xE := .inl (0, N, .inl fun _ => 0)
abbrev lar (N : Nat) : xE := .inl (1, N, .inr (.inl fun _ => 0))
set_option maxRecDepth 20000 in
theorem Ta_init_ok (h1 : h a = some (.inr (5, [.null]))) (hk : ∀ h', h' a = some (.inr (5, [.ref n])) → h' n = some (iar 100) → hp_off [a, n] h h' → P none h' (n + 1)) : ev_Run G l (d + 1) (bc + 1) (bs + 100) mTa_init 0 [some (.ref a)] [] h n P := by
  refine ev_lt (fun hlt => ?_)
  have hla := hlt _ _ h1
  refine ev_aload_n dTa_init_0 rfl rfl ?_
  refine ev_obj dTa_init_1 lTa_3 ob_1 ob_2 (Nat.le_of_ble_eq_true rfl) ?_
  refine ev_aload_n dTa_init_4 rfl rfl ?_
  refine ev_bipush (v := nI 100) dTa_init_5 (by decide) ?_
  refine ev_newa (ty := .int) (t := 0) (N := 100) (a0 := (100, .inl fun _ => 0)) dTa_init_7 rfl (fun _ h9 => by cases h9) rfl a_int (fun _ => rfl) rfl (by decide) (by decide) ?_
  refine ev_putF dTa_init_9 fTa_11 tTa_0 rfl ((hp_set_ne _ _ (by omega)).trans h1) rfl rfl (Nat.le_of_ble_eq_true rfl) ?_
  refine ev_vret dTa_init_12 rfl ?_
  exact hk _ ((hp_set_self _ _ _).trans rfl) ((hp_set_ne _ _ (by omega)).trans (hp_set_self _ _ _)) ((hp_off.rf.set (by simp)).set (by simp))
set_option maxRecDepth 20000 in
theorem By_init400_ok (h1 : h a = some (.inr (0, [.null, .int 0]))) (hk : ∀ h', h' a = some (.inr (0, [.ref n, .int 0])) → h' n = some (iar 400) → hp_off [a, n] h h' → P none h' (n + 1)) : ev_Run G l (d + 1) (bc + 1) (bs + 400) mBy_init 0 [some (.ref a), some (.int (nI 400))] [] h n P := by
  refine ev_lt (fun hlt => ?_)
  have hla := hlt _ _ h1
  refine ev_aload_n dBy_init_0 rfl rfl ?_
  refine ev_obj dBy_init_1 lBy_3 ob_1 ob_2 (Nat.le_of_ble_eq_true rfl) ?_
  refine ev_aload_n dBy_init_4 rfl rfl ?_
  refine ev_iload_n dBy_init_5 rfl rfl ?_
  refine ev_iconst (v := nI 0) dBy_init_6 (by decide) ?_
  refine ev_mmax dBy_init_7 lBy_9 ma_max_1 ma_i ma_max_2 (Nat.le_of_ble_eq_true rfl) ?_
  refine ev_top (if_neg (nI_pos (by decide))) ?_
  refine ev_newa (ty := .int) (t := 0) (N := 400) (a0 := (400, .inl fun _ => 0)) dBy_init_10 rfl (fun _ h9 => by cases h9) rfl a_int (fun _ => rfl) rfl (by decide) (by decide) ?_
  refine ev_putF dBy_init_12 fBy_15 tBy_0 rfl ((hp_set_ne _ _ (by omega)).trans h1) rfl rfl (Nat.le_of_ble_eq_true rfl) ?_
  refine ev_vret dBy_init_15 rfl ?_
  exact hk _ ((hp_set_self _ _ _).trans rfl) ((hp_set_ne _ _ (by omega)).trans (hp_set_self _ _ _)) ((hp_off.rf.set (by simp)).set (by simp))
set_option maxRecDepth 20000 in
theorem By_init1130_ok (h1 : h a = some (.inr (0, [.null, .int 0]))) (hk : ∀ h', h' a = some (.inr (0, [.ref n, .int 0])) → h' n = some (iar 1130) → hp_off [a, n] h h' → P none h' (n + 1)) : ev_Run G l (d + 1) (bc + 1) (bs + 1130) mBy_init 0 [some (.ref a), some (.int (nI 1130))] [] h n P := by
  refine ev_lt (fun hlt => ?_)
  have hla := hlt _ _ h1
  refine ev_aload_n dBy_init_0 rfl rfl ?_
  refine ev_obj dBy_init_1 lBy_3 ob_1 ob_2 (Nat.le_of_ble_eq_true rfl) ?_
  refine ev_aload_n dBy_init_4 rfl rfl ?_
  refine ev_iload_n dBy_init_5 rfl rfl ?_
  refine ev_iconst (v := nI 0) dBy_init_6 (by decide) ?_
  refine ev_mmax dBy_init_7 lBy_9 ma_max_1 ma_i ma_max_2 (Nat.le_of_ble_eq_true rfl) ?_
  refine ev_top (if_neg (nI_pos (by decide))) ?_
  refine ev_newa (ty := .int) (t := 0) (N := 1130) (a0 := (1130, .inl fun _ => 0)) dBy_init_10 rfl (fun _ h9 => by cases h9) rfl a_int (fun _ => rfl) rfl (by decide) (by decide) ?_
  refine ev_putF dBy_init_12 fBy_15 tBy_0 rfl ((hp_set_ne _ _ (by omega)).trans h1) rfl rfl (Nat.le_of_ble_eq_true rfl) ?_
  refine ev_vret dBy_init_15 rfl ?_
  exact hk _ ((hp_set_self _ _ _).trans rfl) ((hp_set_ne _ _ (by omega)).trans (hp_set_self _ _ _)) ((hp_off.rf.set (by simp)).set (by simp))
set_option maxRecDepth 20000 in
theorem Na_init_ok (h1 : h a = some (.inr (3, [.null, .int 0, .int 0]))) (hk : ∀ h', h' a = some (.inr (3, [.ref n, .int 0, .int 0])) → h' n = some (.inr (0, [.ref (n + 1), .int 0])) → h' (n + 1) = some (iar 400) → hp_off [a, n, n + 1] h h' → P none h' (n + 2)) : ev_Run G l (d + 2) (bc + 2) (bs + 402) mNa_init 0 [some (.ref a)] [] h n P := by
  refine ev_lt (fun hlt => ?_)
  have hla := hlt _ _ h1
  refine ev_aload_n dNa_init_0 rfl rfl ?_
  refine ev_obj dNa_init_1 lNa_3 ob_1 ob_2 (Nat.le_of_ble_eq_true rfl) ?_
  refine ev_aload_n dNa_init_4 rfl rfl ?_
  refine ev_new (bs := bs+400) (N := 2) dNa_init_5 nNa_9 ?_
  refine ev_dup dNa_init_8 rfl ?_
  refine ev_sipush (v := nI 400) dNa_init_9 (by decide) ?_
  refine ca_By_init dNa_init_12 lNa_13 (Nat.le_of_ble_eq_true rfl) (bc1 := 1) (bs1 := 400) (bc2 := bc) (bs2 := bs) (by omega) (by omega) (By_init400_ok (hp_set_self _ _ _) (fun h2 q0 q1 o => ?_))
  refine ev_putF dNa_init_15 fNa_16 tNa_0 rfl ((o _ (by simp only [List.mem_cons, List.not_mem_nil, or_false]; omega)).trans ((hp_set_ne _ _ (by omega)).trans h1)) rfl rfl (Nat.le_of_ble_eq_true rfl) ?_
  refine ev_vret dNa_init_18 rfl ?_
  exact hk _ ((hp_set_self _ _ _).trans rfl) ((hp_set_ne _ _ (by omega)).trans q0) ((hp_set_ne _ _ (by omega)).trans q1) (((hp_off.rf.set (by simp)).tr (o.mono (by simp))).set (by simp))
set_option maxRecDepth 20000 in
theorem Ru_init_ok (h1 : h a = some (.inr (4, [.null, .null, .null, .null, .int 0]))) (hk : ∀ h', h' a = some (.inr (4, [.ref n, .ref (n + 1), .ref (n + 2), .ref (n + 3), .int 0])) → h' n = some (iar 40) → h' (n + 1) = some (iar 40) → h' (n + 2) = some (iar 40) → h' (n + 3) = some (iar 40) → hp_off [a, n, n + 1, n + 2, n + 3] h h' → P none h' (n + 4)) : ev_Run G l (d + 1) (bc + 4) (bs + 160) mRu_init 0 [some (.ref a)] [] h n P := by
  refine ev_lt (fun hlt => ?_)
  have hla := hlt _ _ h1
  refine ev_aload_n dRu_init_0 rfl rfl ?_
  refine ev_obj dRu_init_1 lRu_3 ob_1 ob_2 (Nat.le_of_ble_eq_true rfl) ?_
  refine ev_aload_n dRu_init_4 rfl rfl ?_
  refine ev_bipush (v := nI 40) dRu_init_5 (by decide) ?_
  refine ev_newa (ty := .int) (t := 0) (N := 40) (a0 := (40, .inl fun _ => 0)) dRu_init_7 rfl (fun _ h9 => by cases h9) rfl a_int (fun _ => rfl) rfl (by decide) (by decide) ?_
  refine ev_putF dRu_init_9 fRu_11 tRu_0 rfl ((hp_set_ne _ _ (by omega)).trans h1) rfl rfl (Nat.le_of_ble_eq_true rfl) ?_
  refine ev_aload_n dRu_init_12 rfl rfl ?_
  refine ev_bipush (v := nI 40) dRu_init_13 (by decide) ?_
  refine ev_newa (ty := .int) (t := 0) (N := 40) (a0 := (40, .inl fun _ => 0)) dRu_init_15 rfl (fun _ h9 => by cases h9) rfl a_int (fun _ => rfl) rfl (by decide) (by decide) ?_
  refine ev_putF dRu_init_17 fRu_15 tRu_1 rfl ((hp_set_ne _ _ (by omega)).trans (hp_set_self _ _ _)) rfl rfl (Nat.le_of_ble_eq_true rfl) ?_
  refine ev_aload_n dRu_init_20 rfl rfl ?_
  refine ev_bipush (v := nI 40) dRu_init_21 (by decide) ?_
  refine ev_newa (ty := .int) (t := 0) (N := 40) (a0 := (40, .inl fun _ => 0)) dRu_init_23 rfl (fun _ h9 => by cases h9) rfl a_int (fun _ => rfl) rfl (by decide) (by decide) ?_
  refine ev_putF dRu_init_25 fRu_18 tRu_2 rfl ((hp_set_ne _ _ (by omega)).trans (hp_set_self _ _ _)) rfl rfl (Nat.le_of_ble_eq_true rfl) ?_
  refine ev_aload_n dRu_init_28 rfl rfl ?_
  refine ev_bipush (v := nI 40) dRu_init_29 (by decide) ?_
  refine ev_newa (ty := .int) (t := 0) (N := 40) (a0 := (40, .inl fun _ => 0)) dRu_init_31 rfl (fun _ h9 => by cases h9) rfl a_int (fun _ => rfl) rfl (by decide) (by decide) ?_
  refine ev_putF dRu_init_33 fRu_21 tRu_3 rfl ((hp_set_ne _ _ (by omega)).trans (hp_set_self _ _ _)) rfl rfl (Nat.le_of_ble_eq_true rfl) ?_
  refine ev_vret dRu_init_36 rfl ?_
  refine hk _ ((hp_set_self _ _ _).trans rfl) ?_ ?_ ?_ ?_ ((((((((hp_off.rf.set (by simp)).set (by simp)).set (by simp)).set (by simp)).set (by simp)).set (by simp)).set (by simp)).set (by simp))
  · exact (hp_set_ne _ _ (by omega)).trans ((hp_set_ne _ _ (by omega)).trans ((hp_set_ne _ _ (by omega)).trans ((hp_set_ne _ _ (by omega)).trans ((hp_set_ne _ _ (by omega)).trans ((hp_set_ne _ _ (by omega)).trans ((hp_set_ne _ _ (by omega)).trans (hp_set_self _ _ _)))))))
  · exact (hp_set_ne _ _ (by omega)).trans ((hp_set_ne _ _ (by omega)).trans ((hp_set_ne _ _ (by omega)).trans ((hp_set_ne _ _ (by omega)).trans ((hp_set_ne _ _ (by omega)).trans (hp_set_self _ _ _)))))
  · exact (hp_set_ne _ _ (by omega)).trans ((hp_set_ne _ _ (by omega)).trans ((hp_set_ne _ _ (by omega)).trans (hp_set_self _ _ _)))
  · exact (hp_set_ne _ _ (by omega)).trans (hp_set_self _ _ _)
set_option maxRecDepth 20000 in
theorem Le_init_ok (h1 : h a = some (.inr (2, [.null, .int 0, .null, .null, .null, .int 0]))) (hk : ∀ h', h' a = some (.inr (2, [.ref n, .int 0, .ref (n + 1), .ref (n + 2), .ref (n + 3), .int 0])) → h' n = some (iar 10) → h' (n + 1) = some (iar 100) → h' (n + 2) = some (iar 100) → h' (n + 3) = some (lar 100) → hp_off [a, n, n + 1, n + 2, n + 3] h h' → P none h' (n + 4)) : ev_Run G l (d + 1) (bc + 4) (bs + 310) mLe_init 0 [some (.ref a)] [] h n P := by
  refine ev_lt (fun hlt => ?_)
  have hla := hlt _ _ h1
  refine ev_aload_n dLe_init_0 rfl rfl ?_
  refine ev_obj dLe_init_1 lLe_3 ob_1 ob_2 (Nat.le_of_ble_eq_true rfl) ?_
  refine ev_aload_n dLe_init_4 rfl rfl ?_
  refine ev_bipush (v := nI 10) dLe_init_5 (by decide) ?_
  refine ev_newa (ty := .int) (t := 0) (N := 10) (a0 := (10, .inl fun _ => 0)) dLe_init_7 rfl (fun _ h9 => by cases h9) rfl a_int (fun _ => rfl) rfl (by decide) (by decide) ?_
  refine ev_putF dLe_init_9 fLe_11 tLe_0 rfl ((hp_set_ne _ _ (by omega)).trans h1) rfl rfl (Nat.le_of_ble_eq_true rfl) ?_
  refine ev_aload_n dLe_init_12 rfl rfl ?_
  refine ev_bipush (v := nI 100) dLe_init_13 (by decide) ?_
  refine ev_newa (ty := .int) (t := 0) (N := 100) (a0 := (100, .inl fun _ => 0)) dLe_init_15 rfl (fun _ h9 => by cases h9) rfl a_int (fun _ => rfl) rfl (by decide) (by decide) ?_
  refine ev_putF dLe_init_17 fLe_15 tLe_2 rfl ((hp_set_ne _ _ (by omega)).trans (hp_set_self _ _ _)) rfl rfl (Nat.le_of_ble_eq_true rfl) ?_
  refine ev_aload_n dLe_init_20 rfl rfl ?_
  refine ev_bipush (v := nI 100) dLe_init_21 (by decide) ?_
  refine ev_newa (ty := .int) (t := 0) (N := 100) (a0 := (100, .inl fun _ => 0)) dLe_init_23 rfl (fun _ h9 => by cases h9) rfl a_int (fun _ => rfl) rfl (by decide) (by decide) ?_
  refine ev_putF dLe_init_25 fLe_18 tLe_3 rfl ((hp_set_ne _ _ (by omega)).trans (hp_set_self _ _ _)) rfl rfl (Nat.le_of_ble_eq_true rfl) ?_
  refine ev_aload_n dLe_init_28 rfl rfl ?_
  refine ev_bipush (v := nI 100) dLe_init_29 (by decide) ?_
  refine ev_newa (ty := .long) (t := 1) (N := 100) (a0 := (100, .inr (.inl fun _ => 0))) dLe_init_31 rfl (fun _ h9 => by cases h9) rfl a_long (fun _ => rfl) rfl (by decide) (by decide) ?_
  refine ev_putF dLe_init_33 fLe_21 tLe_4 rfl ((hp_set_ne _ _ (by omega)).trans (hp_set_self _ _ _)) rfl rfl (Nat.le_of_ble_eq_true rfl) ?_
  refine ev_vret dLe_init_36 rfl ?_
  refine hk _ ((hp_set_self _ _ _).trans rfl) ?_ ?_ ?_ ?_ ((((((((hp_off.rf.set (by simp)).set (by simp)).set (by simp)).set (by simp)).set (by simp)).set (by simp)).set (by simp)).set (by simp))
  · exact (hp_set_ne _ _ (by omega)).trans ((hp_set_ne _ _ (by omega)).trans ((hp_set_ne _ _ (by omega)).trans ((hp_set_ne _ _ (by omega)).trans ((hp_set_ne _ _ (by omega)).trans ((hp_set_ne _ _ (by omega)).trans ((hp_set_ne _ _ (by omega)).trans (hp_set_self _ _ _)))))))
  · exact (hp_set_ne _ _ (by omega)).trans ((hp_set_ne _ _ (by omega)).trans ((hp_set_ne _ _ (by omega)).trans ((hp_set_ne _ _ (by omega)).trans ((hp_set_ne _ _ (by omega)).trans (hp_set_self _ _ _)))))
  · exact (hp_set_ne _ _ (by omega)).trans ((hp_set_ne _ _ (by omega)).trans ((hp_set_ne _ _ (by omega)).trans (hp_set_self _ _ _)))
  · exact (hp_set_ne _ _ (by omega)).trans (hp_set_self _ _ _)
end INI
