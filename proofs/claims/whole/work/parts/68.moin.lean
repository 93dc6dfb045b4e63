/-! the reference's constructor -/
abbrev bar (N : Nat) : xE := .inl (2, N, .inl fun _ => 0)
abbrev mo0 : List xE := [iar 0, iar 70, iar 70, iar 5670, lar 5670, lar 70, bar 70, iar 70, iar 70, iar 70, lar 70, iar 170, lar 170, iar 400, iar 40, iar 40, iar 40, iar 40, iar 40, iar 40, iar 40, iar 40, iar 10, iar 100, iar 100, lar 100, iar 1300]
def mf (H : xH) (m k : Nat) : Prop := ∀ j, 1 ≤ j → j < k → H (m + j) = mo0[j]?
section MOIN
variable {G : xG} {l : Launch} {d bc bs : Nat} {h : xH} {n m : Nat} {P : Option Value → xH → Nat → Prop}
set_option maxRecDepth 20000 in
set_option maxHeartbeats 2000000 in
theorem Mo_init_ok (h1 : h m = some (.inr (8, [.int 0, .null, .null, .null, .null, .null, .null, .null, .null, .null, .null, .int 0, .null, .null, .int 0, .null, .int 0, .null, .null, .null, .null, .int 0, .null, .null, .null, .null, .int 0, .int 0, .int 0, .null, .int 0, .null, .null, .null, .int 0, .null]))) (hk : ∀ h', h' m = some (.inr (8, [.int 0, .ref (m + 1), .ref (m + 2), .ref (m + 3), .ref (m + 4), .ref (m + 5), .ref (m + 6), .ref (m + 7), .ref (m + 8), .ref (m + 9), .ref (m + 10), .int 0, .ref (m + 11), .ref (m + 12), .int 0, .ref (m + 13), .int 0, .ref (m + 14), .ref (m + 15), .ref (m + 16), .ref (m + 17), .int 0, .ref (m + 18), .ref (m + 19), .ref (m + 20), .ref (m + 21), .int 0, .int 0, .int 0, .ref (m + 22), .int 0, .ref (m + 23), .ref (m + 24), .ref (m + 25), .int 0, .ref (m + 26)])) → mf h' m 27 → (∀ q, q < m → h' q = h q) → P none h' (m + 27)) : ev_Run G l (d + 1) (bc + 26) (bs + 14570) mMo_init 0 [some (.ref m)] [] h (m + 1) P := by
  have s26 : ∀ H, H m = some (.inr (8, [.int 0, .ref (m + 1), .ref (m + 2), .ref (m + 3), .ref (m + 4), .ref (m + 5), .ref (m + 6), .ref (m + 7), .ref (m + 8), .ref (m + 9), .ref (m + 10), .int 0, .ref (m + 11), .ref (m + 12), .int 0, .ref (m + 13), .int 0, .ref (m + 14), .ref (m + 15), .ref (m + 16), .ref (m + 17), .int 0, .ref (m + 18), .ref (m + 19), .ref (m + 20), .ref (m + 21), .int 0, .int 0, .int 0, .ref (m + 22), .int 0, .ref (m + 23), .ref (m + 24), .ref (m + 25), .int 0, .ref (m + 26)])) → mf H m 27 → (∀ q, q < m → H q = h q) → ev_Run G l (d + 1) bc bs mMo_init 218 [some (.ref m)] [] H (m + 27) P := by
    intro H g0 gb gf
    refine ev_vret dMo_init_218 rfl ?_
    exact hk _ g0 gb gf
  have s25 : ∀ H, H m = some (.inr (8, [.int 0, .ref (m + 1), .ref (m + 2), .ref (m + 3), .ref (m + 4), .ref (m + 5), .ref (m + 6), .ref (m + 7), .ref (m + 8), .ref (m + 9), .ref (m + 10), .int 0, .ref (m + 11), .ref (m + 12), .int 0, .ref (m + 13), .int 0, .ref (m + 14), .ref (m + 15), .ref (m + 16), .ref (m + 17), .int 0, .ref (m + 18), .ref (m + 19), .ref (m + 20), .ref (m + 21), .int 0, .int 0, .int 0, .ref (m + 22), .int 0, .ref (m + 23), .ref (m + 24), .ref (m + 25), .int 0, .null])) → mf H m 26 → (∀ q, q < m → H q = h q) → ev_Run G l (d + 1) (bc + 1) (bs + 1300) mMo_init 209 [some (.ref m)] [] H (m + 26) P := by
    intro H g0 gb gf
    refine ev_aload_n dMo_init_209 rfl rfl ?_
    refine ev_sipush (v := nI 1300) dMo_init_210 (by decide) ?_
    refine ev_newa (ty := .int) (t := 0) (N := 1300) (a0 := (1300, .inl fun _ => 0)) dMo_init_213 rfl (fun _ h9 => by cases h9) rfl a_int (fun _ => rfl) rfl (by decide) (by decide) ?_
    refine ev_putF dMo_init_215 fMo_87 tMo_35 rfl ((hp_set_ne _ _ (by omega)).trans g0) rfl rfl (Nat.le_of_ble_eq_true rfl) ?_
    refine s26 _ ((hp_set_self _ _ _).trans rfl) (fun j j1 j2 => (hp_set_ne _ _ (by omega)).trans ?_) (fun q hq => (hp_set_ne _ _ (by omega)).trans ((hp_set_ne _ _ (by omega)).trans (gf q hq)))
    rcases Nat.lt_or_ge j 26 with z | z
    · exact (hp_set_ne _ _ (by omega)).trans (gb j j1 z)
    · have hj : j = 26 := (by omega); subst hj; exact hp_set_self _ _ _
  have s24 : ∀ H, H m = some (.inr (8, [.int 0, .ref (m + 1), .ref (m + 2), .ref (m + 3), .ref (m + 4), .ref (m + 5), .ref (m + 6), .ref (m + 7), .ref (m + 8), .ref (m + 9), .ref (m + 10), .int 0, .ref (m + 11), .ref (m + 12), .int 0, .ref (m + 13), .int 0, .ref (m + 14), .ref (m + 15), .ref (m + 16), .ref (m + 17), .int 0, .ref (m + 18), .ref (m + 19), .ref (m + 20), .ref (m + 21), .int 0, .int 0, .int 0, .ref (m + 22), .int 0, .ref (m + 23), .ref (m + 24), .null, .int 0, .null])) → mf H m 25 → (∀ q, q < m → H q = h q) → ev_Run G l (d + 1) (bc + 2) (bs + 1400) mMo_init 201 [some (.ref m)] [] H (m + 25) P := by
    intro H g0 gb gf
    refine ev_aload_n dMo_init_201 rfl rfl ?_
    refine ev_bipush (v := nI 100) dMo_init_202 (by decide) ?_
    refine ev_newa (ty := .long) (t := 1) (N := 100) (a0 := (100, .inr (.inl fun _ => 0))) dMo_init_204 rfl (fun _ h9 => by cases h9) rfl a_long (fun _ => rfl) rfl (by decide) (by decide) ?_
    refine ev_putF dMo_init_206 fMo_84 tMo_33 rfl ((hp_set_ne _ _ (by omega)).trans g0) rfl rfl (Nat.le_of_ble_eq_true rfl) ?_
    refine s25 _ ((hp_set_self _ _ _).trans rfl) (fun j j1 j2 => (hp_set_ne _ _ (by omega)).trans ?_) (fun q hq => (hp_set_ne _ _ (by omega)).trans ((hp_set_ne _ _ (by omega)).trans (gf q hq)))
    rcases Nat.lt_or_ge j 25 with z | z
    · exact (hp_set_ne _ _ (by omega)).trans (gb j j1 z)
    · have hj : j = 25 := (by omega); subst hj; exact hp_set_self _ _ _
  have s23 : ∀ H, H m = some (.inr (8, [.int 0, .ref (m + 1), .ref (m + 2), .ref (m + 3), .ref (m + 4), .ref (m + 5), .ref (m + 6), .ref (m + 7), .ref (m + 8), .ref (m + 9), .ref (m + 10), .int 0, .ref (m + 11), .ref (m + 12), .int 0, .ref (m + 13), .int 0, .ref (m + 14), .ref (m + 15), .ref (m + 16), .ref (m + 17), .int 0, .ref (m + 18), .ref (m + 19), .ref (m + 20), .ref (m + 21), .int 0, .int 0, .int 0, .ref (m + 22), .int 0, .ref (m + 23), .null, .null, .int 0, .null])) → mf H m 24 → (∀ q, q < m → H q = h q) → ev_Run G l (d + 1) (bc + 3) (bs + 1500) mMo_init 193 [some (.ref m)] [] H (m + 24) P := by
    intro H g0 gb gf
    refine ev_aload_n dMo_init_193 rfl rfl ?_
    refine ev_bipush (v := nI 100) dMo_init_194 (by decide) ?_
    refine ev_newa (ty := .int) (t := 0) (N := 100) (a0 := (100, .inl fun _ => 0)) dMo_init_196 rfl (fun _ h9 => by cases h9) rfl a_int (fun _ => rfl) rfl (by decide) (by decide) ?_
    refine ev_putF dMo_init_198 fMo_81 tMo_32 rfl ((hp_set_ne _ _ (by omega)).trans g0) rfl rfl (Nat.le_of_ble_eq_true rfl) ?_
    refine s24 _ ((hp_set_self _ _ _).trans rfl) (fun j j1 j2 => (hp_set_ne _ _ (by omega)).trans ?_) (fun q hq => (hp_set_ne _ _ (by omega)).trans ((hp_set_ne _ _ (by omega)).trans (gf q hq)))
    rcases Nat.lt_or_ge j 24 with z | z
    · exact (hp_set_ne _ _ (by omega)).trans (gb j j1 z)
    · have hj : j = 24 := (by omega); subst hj; exact hp_set_self _ _ _
  have s22 : ∀ H, H m = some (.inr (8, [.int 0, .ref (m + 1), .ref (m + 2), .ref (m + 3), .ref (m + 4), .ref (m + 5), .ref (m + 6), .ref (m + 7), .ref (m + 8), .ref (m + 9), .ref (m + 10), .int 0, .ref (m + 11), .ref (m + 12), .int 0, .ref (m + 13), .int 0, .ref (m + 14), .ref (m + 15), .ref (m + 16), .ref (m + 17), .int 0, .ref (m + 18), .ref (m + 19), .ref (m + 20), .ref (m + 21), .int 0, .int 0, .int 0, .ref (m + 22), .int 0, .null, .null, .null, .int 0, .null])) → mf H m 23 → (∀ q, q < m → H q = h q) → ev_Run G l (d + 1) (bc + 4) (bs + 1600) mMo_init 185 [some (.ref m)] [] H (m + 23) P := by
    intro H g0 gb gf
    refine ev_aload_n dMo_init_185 rfl rfl ?_
    refine ev_bipush (v := nI 100) dMo_init_186 (by decide) ?_
    refine ev_newa (ty := .int) (t := 0) (N := 100) (a0 := (100, .inl fun _ => 0)) dMo_init_188 rfl (fun _ h9 => by cases h9) rfl a_int (fun _ => rfl) rfl (by decide) (by decide) ?_
    refine ev_putF dMo_init_190 fMo_78 tMo_31 rfl ((hp_set_ne _ _ (by omega)).trans g0) rfl rfl (Nat.le_of_ble_eq_true rfl) ?_
    refine s23 _ ((hp_set_self _ _ _).trans rfl) (fun j j1 j2 => (hp_set_ne _ _ (by omega)).trans ?_) (fun q hq => (hp_set_ne _ _ (by omega)).trans ((hp_set_ne _ _ (by omega)).trans (gf q hq)))
    rcases Nat.lt_or_ge j 23 with z | z
    · exact (hp_set_ne _ _ (by omega)).trans (gb j j1 z)
    · have hj : j = 23 := (by omega); subst hj; exact hp_set_self _ _ _
  have s21 : ∀ H, H m = some (.inr (8, [.int 0, .ref (m + 1), .ref (m + 2), .ref (m + 3), .ref (m + 4), .ref (m + 5), .ref (m + 6), .ref (m + 7), .ref (m + 8), .ref (m + 9), .ref (m + 10), .int 0, .ref (m + 11), .ref (m + 12), .int 0, .ref (m + 13), .int 0, .ref (m + 14), .ref (m + 15), .ref (m + 16), .ref (m + 17), .int 0, .ref (m + 18), .ref (m + 19), .ref (m + 20), .ref (m + 21), .int 0, .int 0, .int 0, .null, .int 0, .null, .null, .null, .int 0, .null])) → mf H m 22 → (∀ q, q < m → H q = h q) → ev_Run G l (d + 1) (bc + 5) (bs + 1610) mMo_init 177 [some (.ref m)] [] H (m + 22) P := by
    intro H g0 gb gf
    refine ev_aload_n dMo_init_177 rfl rfl ?_
    refine ev_bipush (v := nI 10) dMo_init_178 (by decide) ?_
    refine ev_newa (ty := .int) (t := 0) (N := 10) (a0 := (10, .inl fun _ => 0)) dMo_init_180 rfl (fun _ h9 => by cases h9) rfl a_int (fun _ => rfl) rfl (by decide) (by decide) ?_
    refine ev_putF dMo_init_182 fMo_75 tMo_29 rfl ((hp_set_ne _ _ (by omega)).trans g0) rfl rfl (Nat.le_of_ble_eq_true rfl) ?_
    refine s22 _ ((hp_set_self _ _ _).trans rfl) (fun j j1 j2 => (hp_set_ne _ _ (by omega)).trans ?_) (fun q hq => (hp_set_ne _ _ (by omega)).trans ((hp_set_ne _ _ (by omega)).trans (gf q hq)))
    rcases Nat.lt_or_ge j 22 with z | z
    · exact (hp_set_ne _ _ (by omega)).trans (gb j j1 z)
    · have hj : j = 22 := (by omega); subst hj; exact hp_set_self _ _ _
  have s20 : ∀ H, H m = some (.inr (8, [.int 0, .ref (m + 1), .ref (m + 2), .ref (m + 3), .ref (m + 4), .ref (m + 5), .ref (m + 6), .ref (m + 7), .ref (m + 8), .ref (m + 9), .ref (m + 10), .int 0, .ref (m + 11), .ref (m + 12), .int 0, .ref (m + 13), .int 0, .ref (m + 14), .ref (m + 15), .ref (m + 16), .ref (m + 17), .int 0, .ref (m + 18), .ref (m + 19), .ref (m + 20), .null, .int 0, .int 0, .int 0, .null, .int 0, .null, .null, .null, .int 0, .null])) → mf H m 21 → (∀ q, q < m → H q = h q) → ev_Run G l (d + 1) (bc + 6) (bs + 1650) mMo_init 169 [some (.ref m)] [] H (m + 21) P := by
    intro H g0 gb gf
    refine ev_aload_n dMo_init_169 rfl rfl ?_
    refine ev_bipush (v := nI 40) dMo_init_170 (by decide) ?_
    refine ev_newa (ty := .int) (t := 0) (N := 40) (a0 := (40, .inl fun _ => 0)) dMo_init_172 rfl (fun _ h9 => by cases h9) rfl a_int (fun _ => rfl) rfl (by decide) (by decide) ?_
    refine ev_putF dMo_init_174 fMo_72 tMo_25 rfl ((hp_set_ne _ _ (by omega)).trans g0) rfl rfl (Nat.le_of_ble_eq_true rfl) ?_
    refine s21 _ ((hp_set_self _ _ _).trans rfl) (fun j j1 j2 => (hp_set_ne _ _ (by omega)).trans ?_) (fun q hq => (hp_set_ne _ _ (by omega)).trans ((hp_set_ne _ _ (by omega)).trans (gf q hq)))
    rcases Nat.lt_or_ge j 21 with z | z
    · exact (hp_set_ne _ _ (by omega)).trans (gb j j1 z)
    · have hj : j = 21 := (by omega); subst hj; exact hp_set_self _ _ _
  have s19 : ∀ H, H m = some (.inr (8, [.int 0, .ref (m + 1), .ref (m + 2), .ref (m + 3), .ref (m + 4), .ref (m + 5), .ref (m + 6), .ref (m + 7), .ref (m + 8), .ref (m + 9), .ref (m + 10), .int 0, .ref (m + 11), .ref (m + 12), .int 0, .ref (m + 13), .int 0, .ref (m + 14), .ref (m + 15), .ref (m + 16), .ref (m + 17), .int 0, .ref (m + 18), .ref (m + 19), .null, .null, .int 0, .int 0, .int 0, .null, .int 0, .null, .null, .null, .int 0, .null])) → mf H m 20 → (∀ q, q < m → H q = h q) → ev_Run G l (d + 1) (bc + 7) (bs + 1690) mMo_init 161 [some (.ref m)] [] H (m + 20) P := by
    intro H g0 gb gf
    refine ev_aload_n dMo_init_161 rfl rfl ?_
    refine ev_bipush (v := nI 40) dMo_init_162 (by decide) ?_
    refine ev_newa (ty := .int) (t := 0) (N := 40) (a0 := (40, .inl fun _ => 0)) dMo_init_164 rfl (fun _ h9 => by cases h9) rfl a_int (fun _ => rfl) rfl (by decide) (by decide) ?_
    refine ev_putF dMo_init_166 fMo_69 tMo_24 rfl ((hp_set_ne _ _ (by omega)).trans g0) rfl rfl (Nat.le_of_ble_eq_true rfl) ?_
    refine s20 _ ((hp_set_self _ _ _).trans rfl) (fun j j1 j2 => (hp_set_ne _ _ (by omega)).trans ?_) (fun q hq => (hp_set_ne _ _ (by omega)).trans ((hp_set_ne _ _ (by omega)).trans (gf q hq)))
    rcases Nat.lt_or_ge j 20 with z | z
    · exact (hp_set_ne _ _ (by omega)).trans (gb j j1 z)
    · have hj : j = 20 := (by omega); subst hj; exact hp_set_self _ _ _
  have s18 : ∀ H, H m = some (.inr (8, [.int 0, .ref (m + 1), .ref (m + 2), .ref (m + 3), .ref (m + 4), .ref (m + 5), .ref (m + 6), .ref (m + 7), .ref (m + 8), .ref (m + 9), .ref (m + 10), .int 0, .ref (m + 11), .ref (m + 12), .int 0, .ref (m + 13), .int 0, .ref (m + 14), .ref (m + 15), .ref (m + 16), .ref (m + 17), .int 0, .ref (m + 18), .null, .null, .null, .int 0, .int 0, .int 0, .null, .int 0, .null, .null, .null, .int 0, .null])) → mf H m 19 → (∀ q, q < m → H q = h q) → ev_Run G l (d + 1) (bc + 8) (bs + 1730) mMo_init 153 [some (.ref m)] [] H (m + 19) P := by
    intro H g0 gb gf
    refine ev_aload_n dMo_init_153 rfl rfl ?_
    refine ev_bipush (v := nI 40) dMo_init_154 (by decide) ?_
    refine ev_newa (ty := .int) (t := 0) (N := 40) (a0 := (40, .inl fun _ => 0)) dMo_init_156 rfl (fun _ h9 => by cases h9) rfl a_int (fun _ => rfl) rfl (by decide) (by decide) ?_
    refine ev_putF dMo_init_158 fMo_66 tMo_23 rfl ((hp_set_ne _ _ (by omega)).trans g0) rfl rfl (Nat.le_of_ble_eq_true rfl) ?_
    refine s19 _ ((hp_set_self _ _ _).trans rfl) (fun j j1 j2 => (hp_set_ne _ _ (by omega)).trans ?_) (fun q hq => (hp_set_ne _ _ (by omega)).trans ((hp_set_ne _ _ (by omega)).trans (gf q hq)))
    rcases Nat.lt_or_ge j 19 with z | z
    · exact (hp_set_ne _ _ (by omega)).trans (gb j j1 z)
    · have hj : j = 19 := (by omega); subst hj; exact hp_set_self _ _ _
  have s17 : ∀ H, H m = some (.inr (8, [.int 0, .ref (m + 1), .ref (m + 2), .ref (m + 3), .ref (m + 4), .ref (m + 5), .ref (m + 6), .ref (m + 7), .ref (m + 8), .ref (m + 9), .ref (m + 10), .int 0, .ref (m + 11), .ref (m + 12), .int 0, .ref (m + 13), .int 0, .ref (m + 14), .ref (m + 15), .ref (m + 16), .ref (m + 17), .int 0, .null, .null, .null, .null, .int 0, .int 0, .int 0, .null, .int 0, .null, .null, .null, .int 0, .null])) → mf H m 18 → (∀ q, q < m → H q = h q) → ev_Run G l (d + 1) (bc + 9) (bs + 1770) mMo_init 145 [some (.ref m)] [] H (m + 18) P := by
    intro H g0 gb gf
    refine ev_aload_n dMo_init_145 rfl rfl ?_
    refine ev_bipush (v := nI 40) dMo_init_146 (by decide) ?_
    refine ev_newa (ty := .int) (t := 0) (N := 40) (a0 := (40, .inl fun _ => 0)) dMo_init_148 rfl (fun _ h9 => by cases h9) rfl a_int (fun _ => rfl) rfl (by decide) (by decide) ?_
    refine ev_putF dMo_init_150 fMo_63 tMo_22 rfl ((hp_set_ne _ _ (by omega)).trans g0) rfl rfl (Nat.le_of_ble_eq_true rfl) ?_
    refine s18 _ ((hp_set_self _ _ _).trans rfl) (fun j j1 j2 => (hp_set_ne _ _ (by omega)).trans ?_) (fun q hq => (hp_set_ne _ _ (by omega)).trans ((hp_set_ne _ _ (by omega)).trans (gf q hq)))
    rcases Nat.lt_or_ge j 18 with z | z
    · exact (hp_set_ne _ _ (by omega)).trans (gb j j1 z)
    · have hj : j = 18 := (by omega); subst hj; exact hp_set_self _ _ _
  have s16 : ∀ H, H m = some (.inr (8, [.int 0, .ref (m + 1), .ref (m + 2), .ref (m + 3), .ref (m + 4), .ref (m + 5), .ref (m + 6), .ref (m + 7), .ref (m + 8), .ref (m + 9), .ref (m + 10), .int 0, .ref (m + 11), .ref (m + 12), .int 0, .ref (m + 13), .int 0, .ref (m + 14), .ref (m + 15), .ref (m + 16), .null, .int 0, .null, .null, .null, .null, .int 0, .int 0, .int 0, .null, .int 0, .null, .null, .null, .int 0, .null])) → mf H m 17 → (∀ q, q < m → H q = h q) → ev_Run G l (d + 1) (bc + 10) (bs + 1810) mMo_init 137 [some (.ref m)] [] H (m + 17) P := by
    intro H g0 gb gf
    refine ev_aload_n dMo_init_137 rfl rfl ?_
    refine ev_bipush (v := nI 40) dMo_init_138 (by decide) ?_
    refine ev_newa (ty := .int) (t := 0) (N := 40) (a0 := (40, .inl fun _ => 0)) dMo_init_140 rfl (fun _ h9 => by cases h9) rfl a_int (fun _ => rfl) rfl (by decide) (by decide) ?_
    refine ev_putF dMo_init_142 fMo_60 tMo_20 rfl ((hp_set_ne _ _ (by omega)).trans g0) rfl rfl (Nat.le_of_ble_eq_true rfl) ?_
    refine s17 _ ((hp_set_self _ _ _).trans rfl) (fun j j1 j2 => (hp_set_ne _ _ (by omega)).trans ?_) (fun q hq => (hp_set_ne _ _ (by omega)).trans ((hp_set_ne _ _ (by omega)).trans (gf q hq)))
    rcases Nat.lt_or_ge j 17 with z | z
    · exact (hp_set_ne _ _ (by omega)).trans (gb j j1 z)
    · have hj : j = 17 := (by omega); subst hj; exact hp_set_self _ _ _
  have s15 : ∀ H, H m = some (.inr (8, [.int 0, .ref (m + 1), .ref (m + 2), .ref (m + 3), .ref (m + 4), .ref (m + 5), .ref (m + 6), .ref (m + 7), .ref (m + 8), .ref (m + 9), .ref (m + 10), .int 0, .ref (m + 11), .ref (m + 12), .int 0, .ref (m + 13), .int 0, .ref (m + 14), .ref (m + 15), .null, .null, .int 0, .null, .null, .null, .null, .int 0, .int 0, .int 0, .null, .int 0, .null, .null, .null, .int 0, .null])) → mf H m 16 → (∀ q, q < m → H q = h q) → ev_Run G l (d + 1) (bc + 11) (bs + 1850) mMo_init 129 [some (.ref m)] [] H (m + 16) P := by
    intro H g0 gb gf
    refine ev_aload_n dMo_init_129 rfl rfl ?_
    refine ev_bipush (v := nI 40) dMo_init_130 (by decide) ?_
    refine ev_newa (ty := .int) (t := 0) (N := 40) (a0 := (40, .inl fun _ => 0)) dMo_init_132 rfl (fun _ h9 => by cases h9) rfl a_int (fun _ => rfl) rfl (by decide) (by decide) ?_
    refine ev_putF dMo_init_134 fMo_57 tMo_19 rfl ((hp_set_ne _ _ (by omega)).trans g0) rfl rfl (Nat.le_of_ble_eq_true rfl) ?_
    refine s16 _ ((hp_set_self _ _ _).trans rfl) (fun j j1 j2 => (hp_set_ne _ _ (by omega)).trans ?_) (fun q hq => (hp_set_ne _ _ (by omega)).trans ((hp_set_ne _ _ (by omega)).trans (gf q hq)))
    rcases Nat.lt_or_ge j 16 with z | z
    · exact (hp_set_ne _ _ (by omega)).trans (gb j j1 z)
    · have hj : j = 16 := (by omega); subst hj; exact hp_set_self _ _ _
  have s14 : ∀ H, H m = some (.inr (8, [.int 0, .ref (m + 1), .ref (m + 2), .ref (m + 3), .ref (m + 4), .ref (m + 5), .ref (m + 6), .ref (m + 7), .ref (m + 8), .ref (m + 9), .ref (m + 10), .int 0, .ref (m + 11), .ref (m + 12), .int 0, .ref (m + 13), .int 0, .ref (m + 14), .null, .null, .null, .int 0, .null, .null, .null, .null, .int 0, .int 0, .int 0, .null, .int 0, .null, .null, .null, .int 0, .null])) → mf H m 15 → (∀ q, q < m → H q = h q) → ev_Run G l (d + 1) (bc + 12) (bs + 1890) mMo_init 121 [some (.ref m)] [] H (m + 15) P := by
    intro H g0 gb gf
    refine ev_aload_n dMo_init_121 rfl rfl ?_
    refine ev_bipush (v := nI 40) dMo_init_122 (by decide) ?_
    refine ev_newa (ty := .int) (t := 0) (N := 40) (a0 := (40, .inl fun _ => 0)) dMo_init_124 rfl (fun _ h9 => by cases h9) rfl a_int (fun _ => rfl) rfl (by decide) (by decide) ?_
    refine ev_putF dMo_init_126 fMo_54 tMo_18 rfl ((hp_set_ne _ _ (by omega)).trans g0) rfl rfl (Nat.le_of_ble_eq_true rfl) ?_
    refine s15 _ ((hp_set_self _ _ _).trans rfl) (fun j j1 j2 => (hp_set_ne _ _ (by omega)).trans ?_) (fun q hq => (hp_set_ne _ _ (by omega)).trans ((hp_set_ne _ _ (by omega)).trans (gf q hq)))
    rcases Nat.lt_or_ge j 15 with z | z
    · exact (hp_set_ne _ _ (by omega)).trans (gb j j1 z)
    · have hj : j = 15 := (by omega); subst hj; exact hp_set_self _ _ _
  have s13 : ∀ H, H m = some (.inr (8, [.int 0, .ref (m + 1), .ref (m + 2), .ref (m + 3), .ref (m + 4), .ref (m + 5), .ref (m + 6), .ref (m + 7), .ref (m + 8), .ref (m + 9), .ref (m + 10), .int 0, .ref (m + 11), .ref (m + 12), .int 0, .ref (m + 13), .int 0, .null, .null, .null, .null, .int 0, .null, .null, .null, .null, .int 0, .int 0, .int 0, .null, .int 0, .null, .null, .null, .int 0, .null])) → mf H m 14 → (∀ q, q < m → H q = h q) → ev_Run G l (d + 1) (bc + 13) (bs + 1930) mMo_init 113 [some (.ref m)] [] H (m + 14) P := by
    intro H g0 gb gf
    refine ev_aload_n dMo_init_113 rfl rfl ?_
    refine ev_bipush (v := nI 40) dMo_init_114 (by decide) ?_
    refine ev_newa (ty := .int) (t := 0) (N := 40) (a0 := (40, .inl fun _ => 0)) dMo_init_116 rfl (fun _ h9 => by cases h9) rfl a_int (fun _ => rfl) rfl (by decide) (by decide) ?_
    refine ev_putF dMo_init_118 fMo_51 tMo_17 rfl ((hp_set_ne _ _ (by omega)).trans g0) rfl rfl (Nat.le_of_ble_eq_true rfl) ?_
    refine s14 _ ((hp_set_self _ _ _).trans rfl) (fun j j1 j2 => (hp_set_ne _ _ (by omega)).trans ?_) (fun q hq => (hp_set_ne _ _ (by omega)).trans ((hp_set_ne _ _ (by omega)).trans (gf q hq)))
    rcases Nat.lt_or_ge j 14 with z | z
    · exact (hp_set_ne _ _ (by omega)).trans (gb j j1 z)
    · have hj : j = 14 := (by omega); subst hj; exact hp_set_self _ _ _
  have s12 : ∀ H, H m = some (.inr (8, [.int 0, .ref (m + 1), .ref (m + 2), .ref (m + 3), .ref (m + 4), .ref (m + 5), .ref (m + 6), .ref (m + 7), .ref (m + 8), .ref (m + 9), .ref (m + 10), .int 0, .ref (m + 11), .ref (m + 12), .int 0, .null, .int 0, .null, .null, .null, .null, .int 0, .null, .null, .null, .null, .int 0, .int 0, .int 0, .null, .int 0, .null, .null, .null, .int 0, .null])) → mf H m 13 → (∀ q, q < m → H q = h q) → ev_Run G l (d + 1) (bc + 14) (bs + 2330) mMo_init 104 [some (.ref m)] [] H (m + 13) P := by
    intro H g0 gb gf
    refine ev_aload_n dMo_init_104 rfl rfl ?_
    refine ev_sipush (v := nI 400) dMo_init_105 (by decide) ?_
    refine ev_newa (ty := .int) (t := 0) (N := 400) (a0 := (400, .inl fun _ => 0)) dMo_init_108 rfl (fun _ h9 => by cases h9) rfl a_int (fun _ => rfl) rfl (by decide) (by decide) ?_
    refine ev_putF dMo_init_110 fMo_48 tMo_15 rfl ((hp_set_ne _ _ (by omega)).trans g0) rfl rfl (Nat.le_of_ble_eq_true rfl) ?_
    refine s13 _ ((hp_set_self _ _ _).trans rfl) (fun j j1 j2 => (hp_set_ne _ _ (by omega)).trans ?_) (fun q hq => (hp_set_ne _ _ (by omega)).trans ((hp_set_ne _ _ (by omega)).trans (gf q hq)))
    rcases Nat.lt_or_ge j 13 with z | z
    · exact (hp_set_ne _ _ (by omega)).trans (gb j j1 z)
    · have hj : j = 13 := (by omega); subst hj; exact hp_set_self _ _ _
  have s11 : ∀ H, H m = some (.inr (8, [.int 0, .ref (m + 1), .ref (m + 2), .ref (m + 3), .ref (m + 4), .ref (m + 5), .ref (m + 6), .ref (m + 7), .ref (m + 8), .ref (m + 9), .ref (m + 10), .int 0, .ref (m + 11), .null, .int 0, .null, .int 0, .null, .null, .null, .null, .int 0, .null, .null, .null, .null, .int 0, .int 0, .int 0, .null, .int 0, .null, .null, .null, .int 0, .null])) → mf H m 12 → (∀ q, q < m → H q = h q) → ev_Run G l (d + 1) (bc + 15) (bs + 2500) mMo_init 95 [some (.ref m)] [] H (m + 12) P := by
    intro H g0 gb gf
    refine ev_aload_n dMo_init_95 rfl rfl ?_
    refine ev_sipush (v := nI 170) dMo_init_96 (by decide) ?_
    refine ev_newa (ty := .long) (t := 1) (N := 170) (a0 := (170, .inr (.inl fun _ => 0))) dMo_init_99 rfl (fun _ h9 => by cases h9) rfl a_long (fun _ => rfl) rfl (by decide) (by decide) ?_
    refine ev_putF dMo_init_101 fMo_45 tMo_13 rfl ((hp_set_ne _ _ (by omega)).trans g0) rfl rfl (Nat.le_of_ble_eq_true rfl) ?_
    refine s12 _ ((hp_set_self _ _ _).trans rfl) (fun j j1 j2 => (hp_set_ne _ _ (by omega)).trans ?_) (fun q hq => (hp_set_ne _ _ (by omega)).trans ((hp_set_ne _ _ (by omega)).trans (gf q hq)))
    rcases Nat.lt_or_ge j 12 with z | z
    · exact (hp_set_ne _ _ (by omega)).trans (gb j j1 z)
    · have hj : j = 12 := (by omega); subst hj; exact hp_set_self _ _ _
  have s10 : ∀ H, H m = some (.inr (8, [.int 0, .ref (m + 1), .ref (m + 2), .ref (m + 3), .ref (m + 4), .ref (m + 5), .ref (m + 6), .ref (m + 7), .ref (m + 8), .ref (m + 9), .ref (m + 10), .int 0, .null, .null, .int 0, .null, .int 0, .null, .null, .null, .null, .int 0, .null, .null, .null, .null, .int 0, .int 0, .int 0, .null, .int 0, .null, .null, .null, .int 0, .null])) → mf H m 11 → (∀ q, q < m → H q = h q) → ev_Run G l (d + 1) (bc + 16) (bs + 2670) mMo_init 86 [some (.ref m)] [] H (m + 11) P := by
    intro H g0 gb gf
    refine ev_aload_n dMo_init_86 rfl rfl ?_
    refine ev_sipush (v := nI 170) dMo_init_87 (by decide) ?_
    refine ev_newa (ty := .int) (t := 0) (N := 170) (a0 := (170, .inl fun _ => 0)) dMo_init_90 rfl (fun _ h9 => by cases h9) rfl a_int (fun _ => rfl) rfl (by decide) (by decide) ?_
    refine ev_putF dMo_init_92 fMo_42 tMo_12 rfl ((hp_set_ne _ _ (by omega)).trans g0) rfl rfl (Nat.le_of_ble_eq_true rfl) ?_
    refine s11 _ ((hp_set_self _ _ _).trans rfl) (fun j j1 j2 => (hp_set_ne _ _ (by omega)).trans ?_) (fun q hq => (hp_set_ne _ _ (by omega)).trans ((hp_set_ne _ _ (by omega)).trans (gf q hq)))
    rcases Nat.lt_or_ge j 11 with z | z
    · exact (hp_set_ne _ _ (by omega)).trans (gb j j1 z)
    · have hj : j = 11 := (by omega); subst hj; exact hp_set_self _ _ _
  have s9 : ∀ H, H m = some (.inr (8, [.int 0, .ref (m + 1), .ref (m + 2), .ref (m + 3), .ref (m + 4), .ref (m + 5), .ref (m + 6), .ref (m + 7), .ref (m + 8), .ref (m + 9), .null, .int 0, .null, .null, .int 0, .null, .int 0, .null, .null, .null, .null, .int 0, .null, .null, .null, .null, .int 0, .int 0, .int 0, .null, .int 0, .null, .null, .null, .int 0, .null])) → mf H m 10 → (∀ q, q < m → H q = h q) → ev_Run G l (d + 1) (bc + 17) (bs + 2740) mMo_init 78 [some (.ref m)] [] H (m + 10) P := by
    intro H g0 gb gf
    refine ev_aload_n dMo_init_78 rfl rfl ?_
    refine ev_bipush (v := nI 70) dMo_init_79 (by decide) ?_
    refine ev_newa (ty := .long) (t := 1) (N := 70) (a0 := (70, .inr (.inl fun _ => 0))) dMo_init_81 rfl (fun _ h9 => by cases h9) rfl a_long (fun _ => rfl) rfl (by decide) (by decide) ?_
    refine ev_putF dMo_init_83 fMo_39 tMo_10 rfl ((hp_set_ne _ _ (by omega)).trans g0) rfl rfl (Nat.le_of_ble_eq_true rfl) ?_
    refine s10 _ ((hp_set_self _ _ _).trans rfl) (fun j j1 j2 => (hp_set_ne _ _ (by omega)).trans ?_) (fun q hq => (hp_set_ne _ _ (by omega)).trans ((hp_set_ne _ _ (by omega)).trans (gf q hq)))
    rcases Nat.lt_or_ge j 10 with z | z
    · exact (hp_set_ne _ _ (by omega)).trans (gb j j1 z)
    · have hj : j = 10 := (by omega); subst hj; exact hp_set_self _ _ _
  have s8 : ∀ H, H m = some (.inr (8, [.int 0, .ref (m + 1), .ref (m + 2), .ref (m + 3), .ref (m + 4), .ref (m + 5), .ref (m + 6), .ref (m + 7), .ref (m + 8), .null, .null, .int 0, .null, .null, .int 0, .null, .int 0, .null, .null, .null, .null, .int 0, .null, .null, .null, .null, .int 0, .int 0, .int 0, .null, .int 0, .null, .null, .null, .int 0, .null])) → mf H m 9 → (∀ q, q < m → H q = h q) → ev_Run G l (d + 1) (bc + 18) (bs + 2810) mMo_init 70 [some (.ref m)] [] H (m + 9) P := by
    intro H g0 gb gf
    refine ev_aload_n dMo_init_70 rfl rfl ?_
    refine ev_bipush (v := nI 70) dMo_init_71 (by decide) ?_
    refine ev_newa (ty := .int) (t := 0) (N := 70) (a0 := (70, .inl fun _ => 0)) dMo_init_73 rfl (fun _ h9 => by cases h9) rfl a_int (fun _ => rfl) rfl (by decide) (by decide) ?_
    refine ev_putF dMo_init_75 fMo_36 tMo_9 rfl ((hp_set_ne _ _ (by omega)).trans g0) rfl rfl (Nat.le_of_ble_eq_true rfl) ?_
    refine s9 _ ((hp_set_self _ _ _).trans rfl) (fun j j1 j2 => (hp_set_ne _ _ (by omega)).trans ?_) (fun q hq => (hp_set_ne _ _ (by omega)).trans ((hp_set_ne _ _ (by omega)).trans (gf q hq)))
    rcases Nat.lt_or_ge j 9 with z | z
    · exact (hp_set_ne _ _ (by omega)).trans (gb j j1 z)
    · have hj : j = 9 := (by omega); subst hj; exact hp_set_self _ _ _
  have s7 : ∀ H, H m = some (.inr (8, [.int 0, .ref (m + 1), .ref (m + 2), .ref (m + 3), .ref (m + 4), .ref (m + 5), .ref (m + 6), .ref (m + 7), .null, .null, .null, .int 0, .null, .null, .int 0, .null, .int 0, .null, .null, .null, .null, .int 0, .null, .null, .null, .null, .int 0, .int 0, .int 0, .null, .int 0, .null, .null, .null, .int 0, .null])) → mf H m 8 → (∀ q, q < m → H q = h q) → ev_Run G l (d + 1) (bc + 19) (bs + 2880) mMo_init 62 [some (.ref m)] [] H (m + 8) P := by
    intro H g0 gb gf
    refine ev_aload_n dMo_init_62 rfl rfl ?_
    refine ev_bipush (v := nI 70) dMo_init_63 (by decide) ?_
    refine ev_newa (ty := .int) (t := 0) (N := 70) (a0 := (70, .inl fun _ => 0)) dMo_init_65 rfl (fun _ h9 => by cases h9) rfl a_int (fun _ => rfl) rfl (by decide) (by decide) ?_
    refine ev_putF dMo_init_67 fMo_33 tMo_8 rfl ((hp_set_ne _ _ (by omega)).trans g0) rfl rfl (Nat.le_of_ble_eq_true rfl) ?_
    refine s8 _ ((hp_set_self _ _ _).trans rfl) (fun j j1 j2 => (hp_set_ne _ _ (by omega)).trans ?_) (fun q hq => (hp_set_ne _ _ (by omega)).trans ((hp_set_ne _ _ (by omega)).trans (gf q hq)))
    rcases Nat.lt_or_ge j 8 with z | z
    · exact (hp_set_ne _ _ (by omega)).trans (gb j j1 z)
    · have hj : j = 8 := (by omega); subst hj; exact hp_set_self _ _ _
  have s6 : ∀ H, H m = some (.inr (8, [.int 0, .ref (m + 1), .ref (m + 2), .ref (m + 3), .ref (m + 4), .ref (m + 5), .ref (m + 6), .null, .null, .null, .null, .int 0, .null, .null, .int 0, .null, .int 0, .null, .null, .null, .null, .int 0, .null, .null, .null, .null, .int 0, .int 0, .int 0, .null, .int 0, .null, .null, .null, .int 0, .null])) → mf H m 7 → (∀ q, q < m → H q = h q) → ev_Run G l (d + 1) (bc + 20) (bs + 2950) mMo_init 54 [some (.ref m)] [] H (m + 7) P := by
    intro H g0 gb gf
    refine ev_aload_n dMo_init_54 rfl rfl ?_
    refine ev_bipush (v := nI 70) dMo_init_55 (by decide) ?_
    refine ev_newa (ty := .int) (t := 0) (N := 70) (a0 := (70, .inl fun _ => 0)) dMo_init_57 rfl (fun _ h9 => by cases h9) rfl a_int (fun _ => rfl) rfl (by decide) (by decide) ?_
    refine ev_putF dMo_init_59 fMo_30 tMo_7 rfl ((hp_set_ne _ _ (by omega)).trans g0) rfl rfl (Nat.le_of_ble_eq_true rfl) ?_
    refine s7 _ ((hp_set_self _ _ _).trans rfl) (fun j j1 j2 => (hp_set_ne _ _ (by omega)).trans ?_) (fun q hq => (hp_set_ne _ _ (by omega)).trans ((hp_set_ne _ _ (by omega)).trans (gf q hq)))
    rcases Nat.lt_or_ge j 7 with z | z
    · exact (hp_set_ne _ _ (by omega)).trans (gb j j1 z)
    · have hj : j = 7 := (by omega); subst hj; exact hp_set_self _ _ _
  have s5 : ∀ H, H m = some (.inr (8, [.int 0, .ref (m + 1), .ref (m + 2), .ref (m + 3), .ref (m + 4), .ref (m + 5), .null, .null, .null, .null, .null, .int 0, .null, .null, .int 0, .null, .int 0, .null, .null, .null, .null, .int 0, .null, .null, .null, .null, .int 0, .int 0, .int 0, .null, .int 0, .null, .null, .null, .int 0, .null])) → mf H m 6 → (∀ q, q < m → H q = h q) → ev_Run G l (d + 1) (bc + 21) (bs + 3020) mMo_init 46 [some (.ref m)] [] H (m + 6) P := by
    intro H g0 gb gf
    refine ev_aload_n dMo_init_46 rfl rfl ?_
    refine ev_bipush (v := nI 70) dMo_init_47 (by decide) ?_
    refine ev_newa (ty := .boolean) (t := 2) (N := 70) (a0 := (70, .inl fun _ => 0)) dMo_init_49 rfl (fun _ h9 => by cases h9) rfl a_boolean (fun _ => rfl) rfl (by decide) (by decide) ?_
    refine ev_putF dMo_init_51 fMo_26 tMo_6 rfl ((hp_set_ne _ _ (by omega)).trans g0) rfl rfl (Nat.le_of_ble_eq_true rfl) ?_
    refine s6 _ ((hp_set_self _ _ _).trans rfl) (fun j j1 j2 => (hp_set_ne _ _ (by omega)).trans ?_) (fun q hq => (hp_set_ne _ _ (by omega)).trans ((hp_set_ne _ _ (by omega)).trans (gf q hq)))
    rcases Nat.lt_or_ge j 6 with z | z
    · exact (hp_set_ne _ _ (by omega)).trans (gb j j1 z)
    · have hj : j = 6 := (by omega); subst hj; exact hp_set_self _ _ _
  have s4 : ∀ H, H m = some (.inr (8, [.int 0, .ref (m + 1), .ref (m + 2), .ref (m + 3), .ref (m + 4), .null, .null, .null, .null, .null, .null, .int 0, .null, .null, .int 0, .null, .int 0, .null, .null, .null, .null, .int 0, .null, .null, .null, .null, .int 0, .int 0, .int 0, .null, .int 0, .null, .null, .null, .int 0, .null])) → mf H m 5 → (∀ q, q < m → H q = h q) → ev_Run G l (d + 1) (bc + 22) (bs + 3090) mMo_init 38 [some (.ref m)] [] H (m + 5) P := by
    intro H g0 gb gf
    refine ev_aload_n dMo_init_38 rfl rfl ?_
    refine ev_bipush (v := nI 70) dMo_init_39 (by decide) ?_
    refine ev_newa (ty := .long) (t := 1) (N := 70) (a0 := (70, .inr (.inl fun _ => 0))) dMo_init_41 rfl (fun _ h9 => by cases h9) rfl a_long (fun _ => rfl) rfl (by decide) (by decide) ?_
    refine ev_putF dMo_init_43 fMo_23 tMo_5 rfl ((hp_set_ne _ _ (by omega)).trans g0) rfl rfl (Nat.le_of_ble_eq_true rfl) ?_
    refine s5 _ ((hp_set_self _ _ _).trans rfl) (fun j j1 j2 => (hp_set_ne _ _ (by omega)).trans ?_) (fun q hq => (hp_set_ne _ _ (by omega)).trans ((hp_set_ne _ _ (by omega)).trans (gf q hq)))
    rcases Nat.lt_or_ge j 5 with z | z
    · exact (hp_set_ne _ _ (by omega)).trans (gb j j1 z)
    · have hj : j = 5 := (by omega); subst hj; exact hp_set_self _ _ _
  have s3 : ∀ H, H m = some (.inr (8, [.int 0, .ref (m + 1), .ref (m + 2), .ref (m + 3), .null, .null, .null, .null, .null, .null, .null, .int 0, .null, .null, .int 0, .null, .int 0, .null, .null, .null, .null, .int 0, .null, .null, .null, .null, .int 0, .int 0, .int 0, .null, .int 0, .null, .null, .null, .int 0, .null])) → mf H m 4 → (∀ q, q < m → H q = h q) → ev_Run G l (d + 1) (bc + 23) (bs + 8760) mMo_init 29 [some (.ref m)] [] H (m + 4) P := by
    intro H g0 gb gf
    refine ev_aload_n dMo_init_29 rfl rfl ?_
    refine ev_sipush (v := nI 5670) dMo_init_30 (by decide) ?_
    refine ev_newa (ty := .long) (t := 1) (N := 5670) (a0 := (5670, .inr (.inl fun _ => 0))) dMo_init_33 rfl (fun _ h9 => by cases h9) rfl a_long (fun _ => rfl) rfl (by decide) (by decide) ?_
    refine ev_putF dMo_init_35 fMo_19 tMo_4 rfl ((hp_set_ne _ _ (by omega)).trans g0) rfl rfl (Nat.le_of_ble_eq_true rfl) ?_
    refine s4 _ ((hp_set_self _ _ _).trans rfl) (fun j j1 j2 => (hp_set_ne _ _ (by omega)).trans ?_) (fun q hq => (hp_set_ne _ _ (by omega)).trans ((hp_set_ne _ _ (by omega)).trans (gf q hq)))
    rcases Nat.lt_or_ge j 4 with z | z
    · exact (hp_set_ne _ _ (by omega)).trans (gb j j1 z)
    · have hj : j = 4 := (by omega); subst hj; exact hp_set_self _ _ _
  have s2 : ∀ H, H m = some (.inr (8, [.int 0, .ref (m + 1), .ref (m + 2), .null, .null, .null, .null, .null, .null, .null, .null, .int 0, .null, .null, .int 0, .null, .int 0, .null, .null, .null, .null, .int 0, .null, .null, .null, .null, .int 0, .int 0, .int 0, .null, .int 0, .null, .null, .null, .int 0, .null])) → mf H m 3 → (∀ q, q < m → H q = h q) → ev_Run G l (d + 1) (bc + 24) (bs + 14430) mMo_init 20 [some (.ref m)] [] H (m + 3) P := by
    intro H g0 gb gf
    refine ev_aload_n dMo_init_20 rfl rfl ?_
    refine ev_sipush (v := nI 5670) dMo_init_21 (by decide) ?_
    refine ev_newa (ty := .int) (t := 0) (N := 5670) (a0 := (5670, .inl fun _ => 0)) dMo_init_24 rfl (fun _ h9 => by cases h9) rfl a_int (fun _ => rfl) rfl (by decide) (by decide) ?_
    refine ev_putF dMo_init_26 fMo_16 tMo_3 rfl ((hp_set_ne _ _ (by omega)).trans g0) rfl rfl (Nat.le_of_ble_eq_true rfl) ?_
    refine s3 _ ((hp_set_self _ _ _).trans rfl) (fun j j1 j2 => (hp_set_ne _ _ (by omega)).trans ?_) (fun q hq => (hp_set_ne _ _ (by omega)).trans ((hp_set_ne _ _ (by omega)).trans (gf q hq)))
    rcases Nat.lt_or_ge j 3 with z | z
    · exact (hp_set_ne _ _ (by omega)).trans (gb j j1 z)
    · have hj : j = 3 := (by omega); subst hj; exact hp_set_self _ _ _
  have s1 : ∀ H, H m = some (.inr (8, [.int 0, .ref (m + 1), .null, .null, .null, .null, .null, .null, .null, .null, .null, .int 0, .null, .null, .int 0, .null, .int 0, .null, .null, .null, .null, .int 0, .null, .null, .null, .null, .int 0, .int 0, .int 0, .null, .int 0, .null, .null, .null, .int 0, .null])) → mf H m 2 → (∀ q, q < m → H q = h q) → ev_Run G l (d + 1) (bc + 25) (bs + 14500) mMo_init 12 [some (.ref m)] [] H (m + 2) P := by
    intro H g0 gb gf
    refine ev_aload_n dMo_init_12 rfl rfl ?_
    refine ev_bipush (v := nI 70) dMo_init_13 (by decide) ?_
    refine ev_newa (ty := .int) (t := 0) (N := 70) (a0 := (70, .inl fun _ => 0)) dMo_init_15 rfl (fun _ h9 => by cases h9) rfl a_int (fun _ => rfl) rfl (by decide) (by decide) ?_
    refine ev_putF dMo_init_17 fMo_13 tMo_2 rfl ((hp_set_ne _ _ (by omega)).trans g0) rfl rfl (Nat.le_of_ble_eq_true rfl) ?_
    refine s2 _ ((hp_set_self _ _ _).trans rfl) (fun j j1 j2 => (hp_set_ne _ _ (by omega)).trans ?_) (fun q hq => (hp_set_ne _ _ (by omega)).trans ((hp_set_ne _ _ (by omega)).trans (gf q hq)))
    rcases Nat.lt_or_ge j 2 with z | z
    · exact (hp_set_ne _ _ (by omega)).trans (gb j j1 z)
    · have hj : j = 2 := (by omega); subst hj; exact hp_set_self _ _ _
  have s0 : ∀ H, H m = some (.inr (8, [.int 0, .null, .null, .null, .null, .null, .null, .null, .null, .null, .null, .int 0, .null, .null, .int 0, .null, .int 0, .null, .null, .null, .null, .int 0, .null, .null, .null, .null, .int 0, .int 0, .int 0, .null, .int 0, .null, .null, .null, .int 0, .null])) → mf H m 1 → (∀ q, q < m → H q = h q) → ev_Run G l (d + 1) (bc + 26) (bs + 14570) mMo_init 4 [some (.ref m)] [] H (m + 1) P := by
    intro H g0 gb gf
    refine ev_aload_n dMo_init_4 rfl rfl ?_
    refine ev_bipush (v := nI 70) dMo_init_5 (by decide) ?_
    refine ev_newa (ty := .int) (t := 0) (N := 70) (a0 := (70, .inl fun _ => 0)) dMo_init_7 rfl (fun _ h9 => by cases h9) rfl a_int (fun _ => rfl) rfl (by decide) (by decide) ?_
    refine ev_putF dMo_init_9 fMo_7 tMo_1 rfl ((hp_set_ne _ _ (by omega)).trans g0) rfl rfl (Nat.le_of_ble_eq_true rfl) ?_
    refine s1 _ ((hp_set_self _ _ _).trans rfl) (fun j j1 j2 => (hp_set_ne _ _ (by omega)).trans ?_) (fun q hq => (hp_set_ne _ _ (by omega)).trans ((hp_set_ne _ _ (by omega)).trans (gf q hq)))
    rcases Nat.lt_or_ge j 1 with z | z
    · exact (hp_set_ne _ _ (by omega)).trans (gb j j1 z)
    · have hj : j = 1 := (by omega); subst hj; exact hp_set_self _ _ _
  refine ev_aload_n dMo_init_0 rfl rfl ?_
  refine ev_obj dMo_init_1 lMo_1 ob_1 ob_2 (Nat.le_of_ble_eq_true rfl) ?_
  exact s0 _ h1 (fun j j1 j2 => absurd j1 (by omega)) (fun _ _ => rfl)
end MOIN
