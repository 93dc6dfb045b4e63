/-! the reference's rows -/
def MoFr (ad : Nat → Nat) (h0 h : xH) : Prop := ∀ q, (∀ j, j < 27 → q ≠ ad (1000 + j)) → h q = h0 q
def MoK (h0 h : xH) (ad tg : Nat → Nat) (T : Nat) (iv : Nat → Int32) (ia : Nat → Nat → Int32) (la : Nat → Nat → Int64) : Prop := ad_ok ad tg T ∧ MoH h ad iv ia la ∧ MoFr ad h0 h
theorem nI_mul (a b : Nat) : nI a * nI b = nI (a * b) := by
  unfold nI; simp [Int32.ofNat_mul]
theorem mo_ix (i k : Nat) : nI 81 * nI i + nI k = nI (81 * i + k) := by rw [nI_mul]; exact nI_add _ _
section MOK
variable {G : xG} {l : Launch} {d bc bs : Nat} {M : xM} {pc : Nat} {L : List (Option Value)} {st : List Value} {h h0 : xH} {n : Nat} {P : Option Value → xH → Nat → Prop} {ad tg : Nat → Nat} {T : Nat} {iv : Nat → Int32} {ia : Nat → Nat → Int32} {la : Nat → Nat → Int64}
theorem MoFr.set {j : Nat} {e : xE} (hF : MoFr ad h0 h) (hj : j < 27) : MoFr ad h0 (hp_set h (ad (1000 + j)) e) := fun q hq => (hp_set_ne _ _ (hq j hj)).trans (hF q hq)
theorem mo_put {iv' : Nat → Int32} {e : xE} (hM : MoK h0 h ad tg T iv ia la) (he : e = Mo_c ad iv') (kk : ∀ h', MoK h0 h' ad tg T iv' ia la → ev_Run G l d bc bs M pc L st h' n P) : ev_Run G l d bc bs M pc L st (hp_set h (ad 1000) e) n P := kk _ ⟨hM.1, hM.2.1.so hM.1 he, hM.2.2.set (j := 0) (by omega)⟩
theorem mo_ist {j t N : Nat} {f : Nat → Int32} (hM : MoK h0 h ad tg T iv ia la) (hj : (j, t, N) ∈ moI) (kk : ∀ h', MoK h0 h' ad tg T iv (upv ia j f) la → ev_Run G l d bc bs M pc L st h' n P) : ev_Run G l d bc bs M pc L st (hp_set h (ad (1000 + j)) (.inl (t, N, .inl f))) n P := kk _ ⟨hM.1, hM.2.1.si hM.1 hj, hM.2.2.set (moI_lt _ hj).2⟩
theorem mo_lst {j N : Nat} {f : Nat → Int64} (hM : MoK h0 h ad tg T iv ia la) (hj : (j, N) ∈ moL) (kk : ∀ h', MoK h0 h' ad tg T iv ia (upv la j f) → ev_Run G l d bc bs M pc L st h' n P) : ev_Run G l d bc bs M pc L st (hp_set h (ad (1000 + j)) (.inl (1, N, .inr (.inl f)))) n P := kk _ ⟨hM.1, hM.2.1.sl hM.1 hj, hM.2.2.set (moL_lt _ hj).2⟩
end MOK
/-! what the reference's cells say of things -/
abbrev mo_t (i : Nat) (t : sT) (ia : Nat → Nat → Int32) (la : Nat → Nat → Int64) : Prop := ia 1 i = nI (t_kind t) ∧ ia 2 i = nI (t_ls t).length ∧ (∀ k p, (t_ls t)[k]? = some p → ia 3 (81 * i + k) = nI p.1 ∧ la 4 (81 * i + k) = lN p.2) ∧ la 5 i = lN (t_lost t) ∧ ia 6 i = nI (t_held t) ∧ ia 7 i = nI (t_warm t) ∧ ia 8 i = nI (t_mark t) ∧ ia 9 i = nI (t_day t) ∧ la 10 i = lN (t_told t)
def MoT (iv : Nat → Int32) (ia : Nat → Nat → Int32) (la : Nat → Nat → Int64) (ts : List sT) : Prop := iv 0 = nI ts.length ∧ ts.length ≤ 70 ∧ (∀ i t, ts[i]? = some t → mo_t i t ia la ∧ (t_ls t).length ≤ 80 ∧ t_ok t) ∧ (∀ i, ts.length ≤ i → i < 70 → ia 2 i = nI 0 ∧ la 5 i = lN 0 ∧ ia 6 i = nI 0 ∧ ia 7 i = nI 0)
section MOT
variable {G : xG} {l : Launch} {d bc bs : Nat} {h h0 : xH} {n : Nat} {P : Option Value → xH → Nat → Prop} {ad tg : Nat → Nat} {T : Nat} {iv : Nat → Int32} {ia : Nat → Nat → Int32} {la : Nat → Nat → Int64} {ts : List sT}
set_option maxRecDepth 20000 in
theorem Mo_isThing_ok {x : Int32} (hM : MoK h0 h ad tg T iv ia la) (hT : MoT iv ia la ts) (ht : ∀ i t, fnd ts x = some (i, t) → P (some (.int (nI 1))) h n) (hf : fnd ts x = none → P (some (.int (nI 0))) h n) : ev_Run G l d bc bs mMo_isThing 0 [some (.ref (ad 1000)), some (.int x)] [] h n P := by
  have h70 := hT.2.1
  refine ev_iload_n dMo_isThing_0 rfl rfl ?_
  refine ev_if_lt (tgt := 16) dMo_isThing_1 (by decide) (fun c1 => ?_) (fun c1 => ?_)
  · refine ev_iconst (v := nI 0) dMo_isThing_16 (by decide) ?_
    refine ev_iret dMo_isThing_17 rfl rfl ?_
    exact hf (fnd_neg c1)
  · refine ev_iload_n dMo_isThing_4 rfl rfl ?_
    refine ev_aload_n dMo_isThing_5 rfl rfl ?_
    refine ev_get dMo_isThing_6 fMo_90 hM.2.1.1 rfl ?_
    refine ev_icmp_ge (tgt := 16) dMo_isThing_9 (by decide) (fun c9 => ?_) (fun c9 => ?_)
    · rw [hT.1] at c9
      refine ev_iconst (v := nI 0) dMo_isThing_16 (by decide) ?_
      refine ev_iret dMo_isThing_17 rfl rfl ?_
      exact hf (fnd_big (by omega) c9)
    · rw [hT.1] at c9
      obtain ⟨j, hj, rfl⟩ := ix_in (by omega) c1 c9
      refine ev_iconst (v := nI 1) dMo_isThing_12 (by decide) ?_
      refine ev_goto (tgt := 17) dMo_isThing_13 (by decide) ?_
      refine ev_iret dMo_isThing_17 rfl rfl ?_
      exact ht j _ (fnd_in (List.getElem?_eq_getElem hj) (by omega))
set_option maxRecDepth 20000 in
theorem Mo_isOf_ok {x : Int32} {w : Nat} (hw : w < 2 ^ 31) (hM : MoK h0 h ad tg T iv ia la) (hT : MoT iv ia la ts) (ht : ∀ i t, fnd ts x = some (i, t) → t_kind t = w → P (some (.int (nI 1))) h n) (hf : (∀ i t, fnd ts x = some (i, t) → ¬ t_kind t = w) → P (some (.int (nI 0))) h n) : ev_Run G l (d + 1) bc bs mMo_isOf 0 [some (.ref (ad 1000)), some (.int x), some (.int (nI w))] [] h n P := by
  have h70 := hT.2.1
  refine ev_aload_n dMo_isOf_0 rfl rfl ?_
  refine ev_iload_n dMo_isOf_1 rfl rfl ?_
  refine cz_Mo_isThing dMo_isOf_2 lMo_94 hM.2.1.1 (Nat.le_of_ble_eq_true rfl) (Mo_isThing_ok hM hT (fun i t q => ?_) (fun q => ?_))
  · obtain ⟨e1, e2, e3⟩ := fnd_some q
    have hi : i < ts.length := (List.getElem?_eq_some_iff.mp e2).1
    obtain ⟨⟨k1, k2⟩, k3, k4⟩ := hT.2.2.1 i t e2
    have k5 := k4.1
    refine ev_if_eq (tgt := 22) dMo_isOf_5 (by decide) (fun q9 => absurd q9 (by decide)) (fun _ => ?_)
    refine ev_aload_n dMo_isOf_8 rfl rfl ?_
    refine ev_get dMo_isOf_9 fMo_7 hM.2.1.1 rfl ?_
    refine ev_iload_n dMo_isOf_12 rfl rfl ?_
    refine ev_iald dMo_isOf_13 hM.2.1.g1 rfl (e1) (by omega) (by decide) ?_
    refine ev_top (k1) ?_
    refine ev_iload_n dMo_isOf_14 rfl rfl ?_
    refine ev_icmp_ne (tgt := 22) dMo_isOf_15 (by decide) (fun c15 => ?_) (fun c15 => ?_)
    · refine ev_iconst (v := nI 0) dMo_isOf_22 (by decide) ?_
      refine ev_iret dMo_isOf_23 rfl rfl ?_
      exact hf (fun i' t' z => by rw [q] at z; cases z; exact fun z => c15 (by rw [z]))
    · refine ev_iconst (v := nI 1) dMo_isOf_18 (by decide) ?_
      refine ev_goto (tgt := 23) dMo_isOf_19 (by decide) ?_
      refine ev_iret dMo_isOf_23 rfl rfl ?_
      exact ht i t q ((nI_eq (by omega) hw).mp c15)
  · refine ev_if_eq (tgt := 22) dMo_isOf_5 (by decide) (fun _ => ?_) (fun q9 => absurd (by decide) q9)
    refine ev_iconst (v := nI 0) dMo_isOf_22 (by decide) ?_
    refine ev_iret dMo_isOf_23 rfl rfl ?_
    exact hf (fun i t z => by rw [q] at z; cases z)
end MOT
