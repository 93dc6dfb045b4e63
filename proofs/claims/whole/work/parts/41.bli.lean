/-! the class's constructor -/
abbrev bl0 (m : Nat) : List xE := [iar 0, .inl (3, 70, .inr (.inr (.inr (.inr fun _ => none)))), .inr (5, [.ref (m + 3)]), iar 100, .inr (5, [.ref (m + 5)]), iar 100, .inr (3, [.ref (m + 7), .int 0, .int 0]), .inr (0, [.ref (m + 8), .int 0]), iar 400, .inr (4, [.ref (m + 10), .ref (m + 11), .ref (m + 12), .ref (m + 13), .int 0]), iar 40, iar 40, iar 40, iar 40, .inr (4, [.ref (m + 15), .ref (m + 16), .ref (m + 17), .ref (m + 18), .int 0]), iar 40, iar 40, iar 40, iar 40, .inr (2, [.ref (m + 20), .int 0, .ref (m + 21), .ref (m + 22), .ref (m + 23), .int 0]), iar 10, iar 100, iar 100, lar 100, .inr (0, [.ref (m + 25), .int 0]), iar 1130]
def bf (H : xH) (m k : Nat) : Prop := ∀ j, 1 ≤ j → j < k → H (m + j) = (bl0 m)[j]?
section BLI
variable {G : xG} {l : Launch} {d bc bs : Nat} {h : xH} {n m : Nat} {P : Option Value → xH → Nat → Prop}
set_option maxRecDepth 20000 in
set_option maxHeartbeats 1000000 in
theorem BL_init_ok (h1 : h m = some (.inr (7, [.null, .int 0, .null, .null, .null, .null, .null, .null, .null]))) (hk : ∀ h', h' m = some (.inr (7, [.ref (m + 1), .int 0, .ref (m + 2), .ref (m + 4), .ref (m + 6), .ref (m + 9), .ref (m + 14), .ref (m + 19), .ref (m + 24)])) → bf h' m 26 → (∀ q, q < m → h' q = h q) → P none h' (m + 26)) : ev_Run G l (d + 3) (bc + 25) (bs + 2455) mBL_init 0 [some (.ref m)] [] h (m + 1) P := by
  have s7 : ∀ H, H m = some (.inr (7, [.ref (m + 1), .int 0, .ref (m + 2), .ref (m + 4), .ref (m + 6), .ref (m + 9), .ref (m + 14), .ref (m + 19), .ref (m + 24)])) → bf H m 26 → (∀ q, q < m → H q = h q) → ev_Run G l (d + 3) bc bs mBL_init 98 [some (.ref m)] [] H (m + 26) P := by
    intro H g0 gb gf
    refine ev_vret dBL_init_98 rfl ?_
    exact hk _ g0 gb gf
  have s6 : ∀ H, H m = some (.inr (7, [.ref (m + 1), .int 0, .ref (m + 2), .ref (m + 4), .ref (m + 6), .ref (m + 9), .ref (m + 14), .ref (m + 19), .null])) → bf H m 24 → (∀ q, q < m → H q = h q) → ev_Run G l (d + 3) (bc + 2) (bs + 1132) mBL_init 84 [some (.ref m)] [] H (m + 24) P := by
    intro H g0 gb gf
    refine ev_aload_n dBL_init_84 rfl rfl ?_
    refine ev_new (bs := bs+1130) (N := 2) dBL_init_85 nBL_53 ?_
    refine ev_dup dBL_init_88 rfl ?_
    refine ev_sipush (v := nI 1130) dBL_init_89 (by decide) ?_
    refine ca_By_init dBL_init_92 lBL_55 (Nat.le_of_ble_eq_true rfl) (bc1 := 1) (bs1 := 1130) (bc2 := bc) (bs2 := bs) (by omega) (by omega) (By_init1130_ok (hp_set_self _ _ _) (fun h2 q0 q1 o => ?_))
    have fr : ∀ q, q < m + 24 → h2 q = H q := fun q hq => (o _ (by simp only [List.mem_cons, List.not_mem_nil, or_false]; omega)).trans (hp_set_ne _ _ (by omega))
    refine ev_putF dBL_init_95 fBL_58 tBL_8 rfl ((fr _ (by omega)).trans g0) rfl rfl (Nat.le_of_ble_eq_true rfl) ?_
    refine s7 _ ((hp_set_self _ _ _).trans rfl) (fun j j1 j2 => (hp_set_ne _ _ (by omega)).trans ?_) (fun q hq => (hp_set_ne _ _ (by omega)).trans ((fr q (by omega)).trans (gf q hq)))
    rcases Nat.lt_or_ge j 24 with z | z
    · exact (fr _ (by omega)).trans (gb j j1 z)
    · have hj : j = 24 ∨ j = 25 := (by omega); rcases hj with rfl | rfl; exact q0; exact q1
  have s5 : ∀ H, H m = some (.inr (7, [.ref (m + 1), .int 0, .ref (m + 2), .ref (m + 4), .ref (m + 6), .ref (m + 9), .ref (m + 14), .null, .null])) → bf H m 19 → (∀ q, q < m → H q = h q) → ev_Run G l (d + 3) (bc + 7) (bs + 1448) mBL_init 73 [some (.ref m)] [] H (m + 19) P := by
    intro H g0 gb gf
    refine ev_aload_n dBL_init_73 rfl rfl ?_
    refine ev_new (bs := bs+1442) (N := 6) dBL_init_74 nBL_46 ?_
    refine ev_dup dBL_init_77 rfl ?_
    refine ca_Le_init dBL_init_78 lBL_48 (Nat.le_of_ble_eq_true rfl) (bc1 := 4) (bs1 := 310) (bc2 := bc+2) (bs2 := bs+1132) (by omega) (by omega) (Le_init_ok (hp_set_self _ _ _) (fun h2 q0 q1 q2 q3 q4 o => ?_))
    have fr : ∀ q, q < m + 19 → h2 q = H q := fun q hq => (o _ (by simp only [List.mem_cons, List.not_mem_nil, or_false]; omega)).trans (hp_set_ne _ _ (by omega))
    refine ev_putF dBL_init_81 fBL_49 tBL_7 rfl ((fr _ (by omega)).trans g0) rfl rfl (Nat.le_of_ble_eq_true rfl) ?_
    refine s6 _ ((hp_set_self _ _ _).trans rfl) (fun j j1 j2 => (hp_set_ne _ _ (by omega)).trans ?_) (fun q hq => (hp_set_ne _ _ (by omega)).trans ((fr q (by omega)).trans (gf q hq)))
    rcases Nat.lt_or_ge j 19 with z | z
    · exact (fr _ (by omega)).trans (gb j j1 z)
    · have hj : j = 19 ∨ j = 20 ∨ j = 21 ∨ j = 22 ∨ j = 23 := (by omega); rcases hj with rfl | rfl | rfl | rfl | rfl; exact q0; exact q1; exact q2; exact q3; exact q4
  have s4 : ∀ H, H m = some (.inr (7, [.ref (m + 1), .int 0, .ref (m + 2), .ref (m + 4), .ref (m + 6), .ref (m + 9), .null, .null, .null])) → bf H m 14 → (∀ q, q < m → H q = h q) → ev_Run G l (d + 3) (bc + 12) (bs + 1613) mBL_init 62 [some (.ref m)] [] H (m + 14) P := by
    intro H g0 gb gf
    refine ev_aload_n dBL_init_62 rfl rfl ?_
    refine ev_new (bs := bs+1608) (N := 5) dBL_init_63 nBL_36 ?_
    refine ev_dup dBL_init_66 rfl ?_
    refine ca_Ru_init dBL_init_67 lBL_38 (Nat.le_of_ble_eq_true rfl) (bc1 := 4) (bs1 := 160) (bc2 := bc+7) (bs2 := bs+1448) (by omega) (by omega) (Ru_init_ok (hp_set_self _ _ _) (fun h2 q0 q1 q2 q3 q4 o => ?_))
    have fr : ∀ q, q < m + 14 → h2 q = H q := fun q hq => (o _ (by simp only [List.mem_cons, List.not_mem_nil, or_false]; omega)).trans (hp_set_ne _ _ (by omega))
    refine ev_put dBL_init_70 fBL_43 tBL_6 ((fr _ (by omega)).trans g0) rfl rfl (Nat.le_of_ble_eq_true rfl) ?_
    refine s5 _ ((hp_set_self _ _ _).trans rfl) (fun j j1 j2 => (hp_set_ne _ _ (by omega)).trans ?_) (fun q hq => (hp_set_ne _ _ (by omega)).trans ((fr q (by omega)).trans (gf q hq)))
    rcases Nat.lt_or_ge j 14 with z | z
    · exact (fr _ (by omega)).trans (gb j j1 z)
    · have hj : j = 14 ∨ j = 15 ∨ j = 16 ∨ j = 17 ∨ j = 18 := (by omega); rcases hj with rfl | rfl | rfl | rfl | rfl; exact q0; exact q1; exact q2; exact q3; exact q4
  have s3 : ∀ H, H m = some (.inr (7, [.ref (m + 1), .int 0, .ref (m + 2), .ref (m + 4), .ref (m + 6), .null, .null, .null, .null])) → bf H m 9 → (∀ q, q < m → H q = h q) → ev_Run G l (d + 3) (bc + 17) (bs + 1778) mBL_init 51 [some (.ref m)] [] H (m + 9) P := by
    intro H g0 gb gf
    refine ev_aload_n dBL_init_51 rfl rfl ?_
    refine ev_new (bs := bs+1773) (N := 5) dBL_init_52 nBL_36 ?_
    refine ev_dup dBL_init_55 rfl ?_
    refine ca_Ru_init dBL_init_56 lBL_38 (Nat.le_of_ble_eq_true rfl) (bc1 := 4) (bs1 := 160) (bc2 := bc+12) (bs2 := bs+1613) (by omega) (by omega) (Ru_init_ok (hp_set_self _ _ _) (fun h2 q0 q1 q2 q3 q4 o => ?_))
    have fr : ∀ q, q < m + 9 → h2 q = H q := fun q hq => (o _ (by simp only [List.mem_cons, List.not_mem_nil, or_false]; omega)).trans (hp_set_ne _ _ (by omega))
    refine ev_put dBL_init_59 fBL_39 tBL_5 ((fr _ (by omega)).trans g0) rfl rfl (Nat.le_of_ble_eq_true rfl) ?_
    refine s4 _ ((hp_set_self _ _ _).trans rfl) (fun j j1 j2 => (hp_set_ne _ _ (by omega)).trans ?_) (fun q hq => (hp_set_ne _ _ (by omega)).trans ((fr q (by omega)).trans (gf q hq)))
    rcases Nat.lt_or_ge j 9 with z | z
    · exact (fr _ (by omega)).trans (gb j j1 z)
    · have hj : j = 9 ∨ j = 10 ∨ j = 11 ∨ j = 12 ∨ j = 13 := (by omega); rcases hj with rfl | rfl | rfl | rfl | rfl; exact q0; exact q1; exact q2; exact q3; exact q4
  have s2 : ∀ H, H m = some (.inr (7, [.ref (m + 1), .int 0, .ref (m + 2), .ref (m + 4), .null, .null, .null, .null, .null])) → bf H m 6 → (∀ q, q < m → H q = h q) → ev_Run G l (d + 3) (bc + 20) (bs + 2183) mBL_init 40 [some (.ref m)] [] H (m + 6) P := by
    intro H g0 gb gf
    refine ev_aload_n dBL_init_40 rfl rfl ?_
    refine ev_new (bs := bs+2180) (N := 3) dBL_init_41 nBL_29 ?_
    refine ev_dup dBL_init_44 rfl ?_
    refine ca_Na_init dBL_init_45 lBL_31 (Nat.le_of_ble_eq_true rfl) (bc1 := 2) (bs1 := 402) (bc2 := bc+17) (bs2 := bs+1778) (by omega) (by omega) (Na_init_ok (hp_set_self _ _ _) (fun h2 q0 q1 q2 o => ?_))
    have fr : ∀ q, q < m + 6 → h2 q = H q := fun q hq => (o _ (by simp only [List.mem_cons, List.not_mem_nil, or_false]; omega)).trans (hp_set_ne _ _ (by omega))
    refine ev_putF dBL_init_48 fBL_32 tBL_4 rfl ((fr _ (by omega)).trans g0) rfl rfl (Nat.le_of_ble_eq_true rfl) ?_
    refine s3 _ ((hp_set_self _ _ _).trans rfl) (fun j j1 j2 => (hp_set_ne _ _ (by omega)).trans ?_) (fun q hq => (hp_set_ne _ _ (by omega)).trans ((fr q (by omega)).trans (gf q hq)))
    rcases Nat.lt_or_ge j 6 with z | z
    · exact (fr _ (by omega)).trans (gb j j1 z)
    · have hj : j = 6 ∨ j = 7 ∨ j = 8 := (by omega); rcases hj with rfl | rfl | rfl; exact q0; exact q1; exact q2
  have s1 : ∀ H, H m = some (.inr (7, [.ref (m + 1), .int 0, .ref (m + 2), .null, .null, .null, .null, .null, .null])) → bf H m 4 → (∀ q, q < m → H q = h q) → ev_Run G l (d + 3) (bc + 22) (bs + 2284) mBL_init 29 [some (.ref m)] [] H (m + 4) P := by
    intro H g0 gb gf
    refine ev_aload_n dBL_init_29 rfl rfl ?_
    refine ev_new (bs := bs+2283) (N := 1) dBL_init_30 nBL_19 ?_
    refine ev_dup dBL_init_33 rfl ?_
    refine ca_Ta_init dBL_init_34 lBL_21 (Nat.le_of_ble_eq_true rfl) (bc1 := 1) (bs1 := 100) (bc2 := bc+20) (bs2 := bs+2183) (by omega) (by omega) (Ta_init_ok (hp_set_self _ _ _) (fun h2 q0 q1 o => ?_))
    have fr : ∀ q, q < m + 4 → h2 q = H q := fun q hq => (o _ (by simp only [List.mem_cons, List.not_mem_nil, or_false]; omega)).trans (hp_set_ne _ _ (by omega))
    refine ev_putF dBL_init_37 fBL_26 tBL_3 rfl ((fr _ (by omega)).trans g0) rfl rfl (Nat.le_of_ble_eq_true rfl) ?_
    refine s2 _ ((hp_set_self _ _ _).trans rfl) (fun j j1 j2 => (hp_set_ne _ _ (by omega)).trans ?_) (fun q hq => (hp_set_ne _ _ (by omega)).trans ((fr q (by omega)).trans (gf q hq)))
    rcases Nat.lt_or_ge j 4 with z | z
    · exact (fr _ (by omega)).trans (gb j j1 z)
    · have hj : j = 4 ∨ j = 5 := (by omega); rcases hj with rfl | rfl; exact q0; exact q1
  have s0 : ∀ H, H m = some (.inr (7, [.ref (m + 1), .int 0, .null, .null, .null, .null, .null, .null, .null])) → bf H m 2 → (∀ q, q < m → H q = h q) → ev_Run G l (d + 3) (bc + 24) (bs + 2385) mBL_init 18 [some (.ref m)] [] H (m + 2) P := by
    intro H g0 gb gf
    refine ev_aload_n dBL_init_18 rfl rfl ?_
    refine ev_new (bs := bs+2384) (N := 1) dBL_init_19 nBL_19 ?_
    refine ev_dup dBL_init_22 rfl ?_
    refine ca_Ta_init dBL_init_23 lBL_21 (Nat.le_of_ble_eq_true rfl) (bc1 := 1) (bs1 := 100) (bc2 := bc+22) (bs2 := bs+2284) (by omega) (by omega) (Ta_init_ok (hp_set_self _ _ _) (fun h2 q0 q1 o => ?_))
    have fr : ∀ q, q < m + 2 → h2 q = H q := fun q hq => (o _ (by simp only [List.mem_cons, List.not_mem_nil, or_false]; omega)).trans (hp_set_ne _ _ (by omega))
    refine ev_putF dBL_init_26 fBL_22 tBL_2 rfl ((fr _ (by omega)).trans g0) rfl rfl (Nat.le_of_ble_eq_true rfl) ?_
    refine s1 _ ((hp_set_self _ _ _).trans rfl) (fun j j1 j2 => (hp_set_ne _ _ (by omega)).trans ?_) (fun q hq => (hp_set_ne _ _ (by omega)).trans ((fr q (by omega)).trans (gf q hq)))
    rcases Nat.lt_or_ge j 2 with z | z
    · exact (fr _ (by omega)).trans (gb j j1 z)
    · have hj : j = 2 ∨ j = 3 := (by omega); rcases hj with rfl | rfl; exact q0; exact q1
  refine ev_aload_n dBL_init_0 rfl rfl ?_
  refine ev_obj dBL_init_1 lBL_3 ob_1 ob_2 (Nat.le_of_ble_eq_true rfl) ?_
  refine ev_aload_n dBL_init_4 rfl rfl ?_
  refine ev_bipush (v := nI 70) dBL_init_5 (by decide) ?_
  refine ev_newq (t := 3) (N := 70) dBL_init_7 rfl cBL_9 (by decide) rfl (by decide) ?_
  refine ev_putF dBL_init_10 fBL_11 tBL_0 rfl ((hp_set_ne _ _ (by omega)).trans h1) rfl rfl (Nat.le_of_ble_eq_true rfl) ?_
  refine ev_aload_n dBL_init_13 rfl rfl ?_
  refine ev_iconst (v := nI 0) dBL_init_14 (by decide) ?_
  refine ev_put dBL_init_15 fBL_15 tBL_1 (hp_set_self _ _ _) rfl rfl (Nat.le_of_ble_eq_true rfl) ?_
  refine s0 _ ((hp_set_self _ _ _).trans rfl) (fun j j1 j2 => ?_) (fun q hq => (hp_set_ne _ _ (by omega)).trans ((hp_set_ne _ _ (by omega)).trans (hp_set_ne _ _ (by omega))))
  have hj : j = 1 := (by omega)
  subst hj
  exact (hp_set_ne _ _ (by omega)).trans ((hp_set_ne _ _ (by omega)).trans (hp_set_self _ _ _))
end BLI
