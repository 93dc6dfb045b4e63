/-! the law: from its start -/
/-- the tape is made before its bytes, the bytes before their row -/
def pm (k : Nat) : Nat := if k = 6 then 7 else if k = 7 then 8 else if k = 8 then 6 else k
def qm (k : Nat) : Nat := if k = 7 then 6 else if k = 8 then 7 else if k = 6 then 8 else k
theorem qm_pm (k : Nat) : qm (pm k) = k := by
  by_cases h6 : k = 6
  · subst h6; rfl
  · by_cases h7 : k = 7
    · subst h7; rfl
    · by_cases h8 : k = 8
      · subst h8; rfl
      · have e : pm k = k := by rw [pm, if_neg h6, if_neg h7, if_neg h8]
        rw [e, qm, if_neg h7, if_neg h8, if_neg h6]
theorem pm_bd {k : Nat} (h : k < 26) : pm k < 26 ∧ (1 ≤ k → 1 ≤ pm k) := by
  by_cases h6 : k = 6
  · subst h6; decide
  · by_cases h7 : k = 7
    · subst h7; decide
    · by_cases h8 : k = 8
      · subst h8; decide
      · have e : pm k = k := by rw [pm, if_neg h6, if_neg h7, if_neg h8]
        rw [e]; exact ⟨h, id⟩
def adI (m : Nat) : Nat → Nat := fun k => if k < 26 then m + pm k else if 1000 ≤ k ∧ k < 1027 then m + 26 + (k - 1000) else 0
def tgI (m : Nat) : Nat → Nat := fun q => if m ≤ q ∧ q < m + 26 then qm (q - m) else if m + 26 ≤ q ∧ q < m + 53 then 1000 + (q - (m + 26)) else 0
theorem adI_lo {m k : Nat} (h : k < 26) : adI m k = m + pm k := if_pos h
theorem adI_hi {m j : Nat} (h : j < 27) : adI m (1000 + j) = m + 26 + j := by
  unfold adI
  rw [if_neg (by omega), if_pos (by omega)]
  omega
theorem adI_ok (m : Nat) : ad_ok (adI m) (tgI m) 0 := by
  intro k hk
  rcases hk with h | h | h
  · have hb := pm_bd h
    rw [adI_lo h]
    unfold tgI
    rw [if_pos (by omega), Nat.add_sub_cancel_left]
    exact qm_pm k
  · omega
  · obtain ⟨j, rfl⟩ : ∃ j, k = 1000 + j := ⟨k - 1000, by omega⟩
    rw [adI_hi (by omega)]
    unfold tgI
    rw [if_neg (by omega), if_pos (by omega)]
    omega
theorem adI_b (m : Nat) : ∀ k, ad_lv 0 k → adI m k < m + 26 + 27 := by
  intro k hk
  rcases hk with h | h | h
  · have hb := pm_bd h
    rw [adI_lo h]; omega
  · omega
  · obtain ⟨j, rfl⟩ : ∃ j, k = 1000 + j := ⟨k - 1000, by omega⟩
    rw [adI_hi (by omega)]; omega
theorem mo0_I : ∀ p ∈ moI, mo0[p.1]? = some (.inl (p.2.1, p.2.2, .inl fun _ => 0)) := by
  intro p hp
  simp only [List.mem_cons, List.not_mem_nil, or_false] at hp
  rcases hp with rfl | rfl | rfl | rfl | rfl | rfl | rfl | rfl | rfl | rfl | rfl | rfl | rfl | rfl | rfl | rfl | rfl | rfl | rfl | rfl | rfl <;> rfl
theorem mo0_L : ∀ p ∈ moL, mo0[p.1]? = some (.inl (1, p.2, .inr (.inl fun _ => 0))) := by
  intro p hp
  simp only [List.mem_cons, List.not_mem_nil, or_false] at hp
  rcases hp with rfl | rfl | rfl | rfl | rfl <;> rfl
section LWS
variable {G : xG} {l : Launch} {d bc bs : Nat} {h h2 : xH} {n m : Nat} {P : Option Value → xH → Nat → Prop}
theorem St_0 (q0 : h2 m = some (.inr (7, [.ref (m + 1), .int 0, .ref (m + 2), .ref (m + 4), .ref (m + 6), .ref (m + 9), .ref (m + 14), .ref (m + 19), .ref (m + 24)]))) (c : bf h2 m 26) (p0 : h2 (m + 26) = some (Mo_c (adI m) (fun _ => 0))) (pb : mf h2 (m + 26) 27) : St h2 (m + 26 + 27) (adI m) (tgI m) [] [] [] [] [] := by
  have e : ∀ j x, 1 ≤ j → j < 26 → (bl0 m)[pm j]? = x → h2 (adI m j) = x := fun j x a b z => by rw [adI_lo b, c (pm j) ((pm_bd b).2 a) (pm_bd b).1]; exact z
  have hX : XT h2 (m + 26 + 27) (adI m) (tgI m) 9 14 [] := ⟨adI_ok m, by rw [adI_lo (by omega)]; exact q0, ⟨fun _ => none, e 1 _ (by omega) (by omega) rfl, fun i hi => absurd hi (by simp)⟩, by simp, fun i t hi => by simp at hi, ⟨by omega, by omega⟩, adI_b m⟩
  have hR1 : Ru h2 (adI m) 9 [] := ⟨fun _ => 0, fun _ => 0, fun _ => 0, fun _ => 0, e 9 _ (by omega) (by omega) rfl, e 10 _ (by omega) (by omega) rfl, e 11 _ (by omega) (by omega) rfl, e 12 _ (by omega) (by omega) rfl, e 13 _ (by omega) (by omega) rfl, by simp, fun k u hu => by simp at hu⟩
  have hR2 : Ru h2 (adI m) 14 [] := ⟨fun _ => 0, fun _ => 0, fun _ => 0, fun _ => 0, e 14 _ (by omega) (by omega) rfl, e 15 _ (by omega) (by omega) rfl, e 16 _ (by omega) (by omega) rfl, e 17 _ (by omega) (by omega) rfl, e 18 _ (by omega) (by omega) rfl, by simp, fun k u hu => by simp at hu⟩
  have hNn : XN h2 (adI m) 9 14 [] [] := ⟨⟨fun _ => 0, e 6 _ (by omega) (by omega) rfl, e 7 _ (by omega) (by omega) rfl, by simp, by omega, fun k v hv => by simp at hv⟩, ⟨0, 0, e 8 _ (by omega) (by omega) rfl⟩, hR1, ⟨[], hR2⟩, Or.inl ⟨rfl, rfl⟩⟩
  have hSs : XS h2 (adI m) := ⟨⟨e 2 _ (by omega) (by omega) rfl, fun _ => 0, e 3 _ (by omega) (by omega) rfl⟩, e 4 _ (by omega) (by omega) rfl, fun _ => 0, e 5 _ (by omega) (by omega) rfl⟩
  have hL : Le h2 (adI m) [] [] := ⟨fun _ => 0, fun _ => 0, fun _ => 0, fun _ => 0, e 19 _ (by omega) (by omega) rfl, e 20 _ (by omega) (by omega) rfl, e 21 _ (by omega) (by omega) rfl, e 22 _ (by omega) (by omega) rfl, e 23 _ (by omega) (by omega) rfl, by simp, by simp, fun k u hu => by simp at hu, fun k u hu => by simp at hu⟩
  have hB : By h2 (adI m 24) (adI m 25) 1130 [] := ⟨fun _ => 0, e 24 _ (by omega) (by omega) rfl, e 25 _ (by omega) (by omega) rfl, by simp, by omega, fun k v hv => by simp at hv⟩
  have hM : MoH h2 (adI m) (fun _ => 0) (fun _ _ => 0) (fun _ _ => 0) := by
    refine ⟨p0, fun p hp => ?_, fun p hp => ?_⟩
    · have := moI_lt p hp
      rw [adI_hi this.2, pb p.1 (by omega) this.2]
      exact mo0_I p hp
    · have := moL_lt p hp
      rw [adI_hi this.2, pb p.1 (by omega) this.2]
      exact mo0_L p hp
  exact ⟨Iv.nil, ⟨9, 14, hX, hNn⟩, hSs, hL, ⟨[], hB⟩, _, _, _, hM, ⟨rfl, by simp, fun i t hi => by simp at hi, fun i _ _ => ⟨rfl, rfl, rfl, rfl⟩⟩, ⟨rfl, by simp, fun k v hv => by simp at hv⟩, ⟨rfl, by simp, fun k v hv => by simp at hv⟩, ⟨rfl, by simp, fun k v hv => by simp at hv, rfl, by simp, fun k v hv => by simp at hv⟩⟩
set_option maxRecDepth 20000 in
set_option maxHeartbeats 2000000 in
theorem lw_ok (hN : xN G ≤ 2560) (hk : ∀ h' n', P (some (.int (nI 1))) h' n') : ev_Run G l (d + 7) (bc + 2101) (bs + 104623) mLw_law 0 [some (.ref (xb G)), none, none, none] [] h n P := by
  refine ev_new (bs := bs+104614) (N := 9) dLw_law_0 nLw_7 ?_
  refine ev_dup dLw_law_3 rfl ?_
  refine ca_BL_init dLw_law_4 lLw_9 (Nat.le_of_ble_eq_true rfl) (bc1 := 25) (bs1 := 2455) (bc2 := bc+2075) (bs2 := bs+102159) (by omega) (by omega) (BL_init_ok (m := n) (hp_set_self _ _ _) (fun h1 q0 qb qf => ?_))
  refine ev_astore_n dLw_law_7 rfl (by decide) ?_
  refine ev_new (bs := bs+102123) (N := 36) dLw_law_8 nLw_10 ?_
  refine ev_dup dLw_law_11 rfl ?_
  refine ca_Mo_init dLw_law_12 lLw_12 (Nat.le_of_ble_eq_true rfl) (bc1 := 26) (bs1 := 14570) (bc2 := bc+2048) (bs2 := bs+87553) (by omega) (by omega) (Mo_init_ok (m := n + 26) (hp_set_self _ _ _) (fun h2 p0 pb pf => ?_))
  refine ev_astore_n dLw_law_15 rfl (by decide) ?_
  refine ev_iconst (v := nI 0) dLw_law_16 (by decide) ?_
  refine ev_istore_n dLw_law_17 rfl (by decide) ?_
  have fr : ∀ q, q < n + 26 → h2 q = h1 q := (fun q hq => (pf q hq).trans (hp_set_ne _ _ (by omega)))
  have hS : St h2 (n + 26 + 27) (adI n) (tgI n) [] [] [] [] [] := St_0 ((fr n (by omega)).trans q0) (fun j a b => (fr _ (by omega)).trans (qb j a b)) p0 pb
  exact lw_loop (by omega) hk 512 0 _ _ _ _ (adI n) (tgI n) _ _ _ _ _ (by omega) (by omega) (by omega) (by omega) hS
end LWS
