/-! the class's things: addresses by labels: ad k; labels by addresses: tg -/
def ad_lv (T k : Nat) : Prop := k < 26 ∨ (100 ≤ k ∧ k < 100 + 4 * T) ∨ (1000 ≤ k ∧ k < 1027)
def ad_ok (ad tg : Nat → Nat) (T : Nat) : Prop := ∀ k, ad_lv T k → tg (ad k) = k
theorem ad_ne {ad tg : Nat → Nat} {T : Nat} (hA : ad_ok ad tg T) {j k : Nat} (hj : ad_lv T j) (hk : ad_lv T k) (h : j ≠ k) : ad j ≠ ad k := fun e => h (by have := congrArg tg e; rw [hA j hj, hA k hk] at this; exact this)
def fnd (ts : List sT) (x : Int32) : Option (Nat × sT) := if x < 0 then none else (ts[x.toNatClampNeg]?).map (fun t => (x.toNatClampNeg, t))
theorem fnd_some {ts : List sT} {x : Int32} {i : Nat} {t : sT} (h : fnd ts x = some (i, t)) : x = nI i ∧ ts[i]? = some t ∧ i < 2 ^ 31 := by
  unfold fnd at h
  by_cases h0 : x < 0
  · rw [if_pos h0] at h; cases h
  · rw [if_neg h0] at h
    obtain ⟨j, hj, rfl⟩ := nI_of h0
    rw [nI_clamp hj] at h
    cases hq : ts[j]? with
    | none => rw [hq] at h; cases h
    | some u => rw [hq] at h; cases h; exact ⟨rfl, hq, hj⟩
theorem fnd_in {ts : List sT} {i : Nat} {t : sT} (hi : ts[i]? = some t) (h : i < 2 ^ 31) : fnd ts (nI i) = some (i, t) := by
  unfold fnd
  rw [if_neg (nI_pos h), nI_clamp h, hi]; rfl
theorem fnd_neg {ts : List sT} {x : Int32} (h : x < 0) : fnd ts x = none := if_pos h
theorem fnd_big {ts : List sT} {x : Int32} (hl : ts.length < 2 ^ 31) (h : nI ts.length ≤ x) : fnd ts x = none := by
  unfold fnd
  by_cases h0 : x < 0
  · exact if_pos h0
  · rw [if_neg h0]
    obtain ⟨j, hj, rfl⟩ := nI_of h0
    rw [nI_leI hl hj] at h
    rw [nI_clamp hj, List.getElem?_eq_none h]; rfl
abbrev BL_c (ad : Nat → Nat) (T lr ls : Nat) : xE := .inr (7, [.ref (ad 1), .int (nI T), .ref (ad 2), .ref (ad 4), .ref (ad 8), .ref (ad lr), .ref (ad ls), .ref (ad 19), .ref (ad 24)])
def XT (h : xH) (n : Nat) (ad tg : Nat → Nat) (lr lq : Nat) (ts : List sT) : Prop := ad_ok ad tg ts.length ∧ h (ad 0) = some (BL_c ad ts.length lr lq) ∧ (∃ f : Nat → Option Nat, h (ad 1) = some (.inl (3, 70, .inr (.inr (.inr (.inr f))))) ∧ ∀ i, i < ts.length → f i = some (ad (100 + 4 * i))) ∧ ts.length ≤ 70 ∧ (∀ i t, ts[i]? = some t → Th h (ad (100 + 4 * i)) (ad (101 + 4 * i)) (ad (102 + 4 * i)) (ad (103 + 4 * i)) t ∧ t_ok t) ∧ (lr < 26 ∧ lq < 26) ∧ ∀ k, ad_lv ts.length k → ad k < n
section BL1
variable {G : xG} {l : Launch} {d bc bs : Nat} {h : xH} {n n0 : Nat} {P : Option Value → xH → Nat → Prop} {ad tg : Nat → Nat} {lr lq : Nat} {ts : List sT}
set_option maxRecDepth 20000 in
theorem BL_isWeight_ok {x : Int64} (ht : lN 1 ≤ x → x ≤ lN 1000000000 → P (some (.int (nI 1))) h n) (hf : ¬ (lN 1 ≤ x ∧ x ≤ lN 1000000000) → P (some (.int (nI 0))) h n) : ev_Run G l d bc bs mBL_isWeight 0 [some (.long x), none] [] h n P := by
  refine ev_lload_n dBL_isWeight_0 rfl rfl ?_
  refine ev_lconst (v := lN 1) dBL_isWeight_1 (by decide) ?_
  refine ev_lcmp_lt (tgt := 18) dBL_isWeight_2 dBL_isWeight_3 (by decide) (fun c2 => ?_) (fun c2 => ?_)
  · refine ev_iconst (v := nI 0) dBL_isWeight_18 (by decide) ?_
    refine ev_iret dBL_isWeight_19 rfl rfl ?_
    exact hf (fun q => lL_lt_nle c2 q.1)
  · refine ev_lload_n dBL_isWeight_6 rfl rfl ?_
    refine ev_ldc2 (v := lN 1000000000) dBL_isWeight_7 qBL_243 ?_
    refine ev_lcmp_gt (tgt := 18) dBL_isWeight_10 dBL_isWeight_11 (by decide) (fun c10 => ?_) (fun c10 => ?_)
    · refine ev_iconst (v := nI 0) dBL_isWeight_18 (by decide) ?_
      refine ev_iret dBL_isWeight_19 rfl rfl ?_
      exact hf (fun q => lL_lt_nle c10 q.2)
    · refine ev_iconst (v := nI 1) dBL_isWeight_14 (by decide) ?_
      refine ev_goto (tgt := 19) dBL_isWeight_15 (by decide) ?_
      refine ev_iret dBL_isWeight_19 rfl rfl ?_
      exact ht (lL_nlt c2) (lL_nlt c10)
set_option maxRecDepth 20000 in
theorem BL_isWithin_ok {x y : Int32} (ht : ¬ x < 0 → x ≤ y → P (some (.int (nI 1))) h n) (hf : (x < 0 ∨ y < x) → P (some (.int (nI 0))) h n) : ev_Run G l d bc bs mBL_isWithin 0 [some (.int x), some (.int y)] [] h n P := by
  refine ev_iload_n dBL_isWithin_0 rfl rfl ?_
  refine ev_if_lt (tgt := 13) dBL_isWithin_1 (by decide) (fun c1 => ?_) (fun c1 => ?_)
  · refine ev_iconst (v := nI 0) dBL_isWithin_13 (by decide) ?_
    refine ev_iret dBL_isWithin_14 rfl rfl ?_
    exact hf (Or.inl c1)
  · refine ev_iload_n dBL_isWithin_4 rfl rfl ?_
    refine ev_iload_n dBL_isWithin_5 rfl rfl ?_
    refine ev_icmp_gt (tgt := 13) dBL_isWithin_6 (by decide) (fun c6 => ?_) (fun c6 => ?_)
    · refine ev_iconst (v := nI 0) dBL_isWithin_13 (by decide) ?_
      refine ev_iret dBL_isWithin_14 rfl rfl ?_
      exact hf (Or.inr c6)
    · refine ev_iconst (v := nI 1) dBL_isWithin_9 (by decide) ?_
      refine ev_goto (tgt := 14) dBL_isWithin_10 (by decide) ?_
      refine ev_iret dBL_isWithin_14 rfl rfl ?_
      exact ht c1 (iI_nlt c6)
set_option maxRecDepth 20000 in
theorem BL_isFull_ok (hX : XT h n0 ad tg lr lq ts) (ht : ts.length = 70 → P (some (.int (nI 1))) h n) (hf : ts.length < 70 → P (some (.int (nI 0))) h n) : ev_Run G l d bc bs mBL_isFull 0 [some (.ref (ad 0))] [] h n P := by
  obtain ⟨hA, h0, ⟨f, h1, hf1⟩, hl, hT, hlr⟩ := hX
  refine ev_aload_n dBL_isFull_0 rfl rfl ?_
  refine ev_get dBL_isFull_1 fBL_15 h0 rfl ?_
  refine ev_aload_n dBL_isFull_4 rfl rfl ?_
  refine ev_get dBL_isFull_5 fBL_11 h0 rfl ?_
  refine ev_alen dBL_isFull_8 h1 rfl ?_
  refine ev_icmp_lt (tgt := 16) dBL_isFull_9 (by decide) (fun c9 => ?_) (fun c9 => ?_)
  · refine ev_iconst (v := nI 0) dBL_isFull_16 (by decide) ?_
    refine ev_iret dBL_isFull_17 rfl rfl ?_
    exact hf ((nI_ltI (by omega) (by decide)).mp c9)
  · refine ev_iconst (v := nI 1) dBL_isFull_12 (by decide) ?_
    refine ev_goto (tgt := 17) dBL_isFull_13 (by decide) ?_
    refine ev_iret dBL_isFull_17 rfl rfl ?_
    have hc : ¬ nI ts.length < nI 70 := c9
    rw [nI_ltI (by omega) (by decide)] at hc
    exact ht (by omega)
set_option maxRecDepth 20000 in
theorem BL_find_ok {x : Int32} (hX : XT h n0 ad tg lr lq ts) (hs : ∀ i t, fnd ts x = some (i, t) → P (some (.ref (ad (100 + 4 * i)))) h n) (hn : fnd ts x = none → P (some .null) h n) : ev_Run G l d bc bs mBL_find 0 [some (.ref (ad 0)), some (.int x)] [] h n P := by
  obtain ⟨hA, h0, ⟨f, h1, hf1⟩, hl, hT, hlr⟩ := hX
  refine ev_iload_n dBL_find_0 rfl rfl ?_
  refine ev_if_lt (tgt := 21) dBL_find_1 (by decide) (fun c1 => ?_) (fun c1 => ?_)
  · refine ev_null dBL_find_21 ?_
    refine ev_aretN dBL_find_22 rfl ?_
    exact hn (fnd_neg c1)
  · refine ev_iload_n dBL_find_4 rfl rfl ?_
    refine ev_aload_n dBL_find_5 rfl rfl ?_
    refine ev_get dBL_find_6 fBL_15 h0 rfl ?_
    refine ev_icmp_ge (tgt := 21) dBL_find_9 (by decide) (fun c9 => ?_) (fun c9 => ?_)
    · refine ev_null dBL_find_21 ?_
      refine ev_aretN dBL_find_22 rfl ?_
      exact hn (fnd_big (by omega) c9)
    · refine ev_aload_n dBL_find_12 rfl rfl ?_
      refine ev_get dBL_find_13 fBL_11 h0 rfl ?_
      refine ev_iload_n dBL_find_16 rfl rfl ?_
      obtain ⟨j, hj, rfl⟩ := ix_in (by omega) c1 c9
      obtain ⟨t, ht⟩ : ∃ t, ts[j]? = some t := ⟨_, List.getElem?_eq_getElem hj⟩
      refine ev_aald dBL_find_17 h1 rfl rfl (by omega) (by decide) (hf1 j hj) ?_
      refine ev_goto (tgt := 22) dBL_find_18 (by decide) ?_
      refine ev_aret dBL_find_22 rfl ?_
      exact hs j t (fnd_in ht (by omega))
set_option maxRecDepth 20000 in
theorem BL_findHaul_ok {x : Int32} (hX : XT h n0 ad tg lr lq ts) (hs : ∀ i t, fnd ts x = some (i, t) → t_kind t = 1 → P (some (.ref (ad (100 + 4 * i)))) h n) (hn : (∀ i t, fnd ts x = some (i, t) → ¬ t_kind t = 1) → P (some .null) h n) : ev_Run G l (d + 1) bc bs mBL_findHaul 0 [some (.ref (ad 0)), some (.int x), none] [] h n P := by
  obtain ⟨hA, h0, ⟨f, h1, hf1⟩, hl, hT, hlr⟩ := id hX
  refine ev_aload_n dBL_findHaul_0 rfl rfl ?_
  refine ev_iload_n dBL_findHaul_1 rfl rfl ?_
  refine cz_BL_find dBL_findHaul_2 lBL_96 h0 (Nat.le_of_ble_eq_true rfl) (BL_find_ok hX (fun i t q2 => ?_) (fun q2 => ?_))
  · obtain ⟨⟨u1, u2⟩, o1⟩ := hT i t (fnd_some q2).2.1
    refine ev_astore_n dBL_findHaul_5 rfl (by decide) ?_
    refine ev_aload_n dBL_findHaul_6 rfl rfl ?_
    refine ev_ifnull dBL_findHaul_7 ?_
    refine ev_aload_n dBL_findHaul_10 rfl rfl ?_
    refine ev_get dBL_findHaul_11 fBL_100 u1 rfl ?_
    refine ev_iconst (v := nI 1) dBL_findHaul_14 (by decide) ?_
    refine ev_icmp_ne (tgt := 22) dBL_findHaul_15 (by decide) (fun c15 => ?_) (fun c15 => ?_)
    · refine ev_null dBL_findHaul_22 ?_
      refine ev_aretN dBL_findHaul_23 rfl ?_
      exact hn (fun i' t' q => by rw [q2] at q; cases q; exact fun z => c15 (by rw [z]))
    · refine ev_aload_n dBL_findHaul_18 rfl rfl ?_
      refine ev_goto (tgt := 23) dBL_findHaul_19 (by decide) ?_
      refine ev_aret dBL_findHaul_23 rfl ?_
      exact hs i t q2 ((nI_eq (by have := o1.1; omega) (by decide)).mp c15)
  · refine ev_astore_nN dBL_findHaul_5 rfl (by decide) ?_
    refine ev_aload_nN dBL_findHaul_6 rfl rfl ?_
    refine ev_ifnullN (tgt := 22) dBL_findHaul_7 (by decide) ?_
    refine ev_null dBL_findHaul_22 ?_
    refine ev_aretN dBL_findHaul_23 rfl ?_
    exact hn (fun i t q => by rw [q2] at q; cases q)
end BL1
