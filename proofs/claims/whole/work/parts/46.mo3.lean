/-! the reference: hold, warm -/
section MO3
variable {G : xG} {l : Launch} {d bc bs : Nat} {h h0 : xH} {n : Nat} {P : Option Value → xH → Nat → Prop} {ad tg : Nat → Nat} {T : Nat} {iv : Nat → Int32} {ia : Nat → Nat → Int32} {la : Nat → Nat → Int64} {ts : List sT}
theorem ag_6 {i : Nat} {v : Int32} : mo_ag i ia (upv ia 6 (upd (ia 6) i v)) la la := fun k hk => ⟨rfl, rfl, fun c _ => ⟨rfl, rfl⟩, rfl, pk_un (f := ia 6) (by omega), rfl, rfl, rfl, rfl⟩
theorem ag_7 {i : Nat} {v : Int32} : mo_ag i ia (upv ia 7 (upd (ia 7) i v)) la la := fun k hk => ⟨rfl, rfl, fun c _ => ⟨rfl, rfl⟩, rfl, rfl, pk_un (f := ia 7) (by omega), rfl, rfl, rfl⟩
theorem rest_i {j : Nat} {f : Nat → Int32} (hj : j < 13) : mo_rest iv iv ia (upv ia j f) la la := ⟨fun k hk => ⟨upv_n (by omega), rfl⟩, fun _ _ => rfl⟩
theorem rest_l {j : Nat} {f : Nat → Int64} (hj : j < 13) : mo_rest iv iv ia ia la (upv la j f) := ⟨fun k hk => ⟨rfl, upv_n (by omega)⟩, fun _ _ => rfl⟩
set_option maxRecDepth 20000 in
set_option maxHeartbeats 1000000 in
theorem Mo_hold_ok {x : Int32} {b : Nat} (hb : b ≤ 1) (hM : MoK h0 h ad tg T iv ia la) (hT : MoT iv ia la ts) (hk : ∀ h' iv' ia' la', MoK h0 h' ad tg T iv' ia' la' → MoT iv' ia' la' (hold_s ts x b).2 → mo_rest iv iv' ia ia' la la' → P (some (.int (hold_s ts x b).1)) h' n) : ev_Run G l (d + 1) bc bs mMo_hold 0 [some (.ref (ad 1000)), some (.int x), some (.int (nI b))] [] h n P := by
  have h70 := hT.2.1
  have hnar : narrow .boolean (.int (nI b)) = .int (nI b) := by
    rcases (by omega : b = 0 ∨ b = 1) with rfl | rfl <;> rfl
  refine ev_aload_n dMo_hold_0 rfl rfl ?_
  refine ev_iload_n dMo_hold_1 rfl rfl ?_
  refine cz_Mo_isThing dMo_hold_2 lMo_94 hM.2.1.1 (Nat.le_of_ble_eq_true rfl) (Mo_isThing_ok hM hT (fun i t q => ?_) (fun q => ?_))
  · rw [hold_s, q] at hk
    simp only [] at hk
    obtain ⟨rfl, e2, e3⟩ := fnd_some q
    have hi : i < ts.length := (List.getElem?_eq_some_iff.mp e2).1
    obtain ⟨⟨k1, k2, k3, k4, k5, k6, k7, k8, k9⟩, k10, o⟩ := hT.2.2.1 i t e2
    refine ev_if_ne (tgt := 10) dMo_hold_5 (by decide) (fun _ => ?_) (fun q9 => absurd q9 (by decide))
    refine ev_aload_n dMo_hold_10 rfl rfl ?_
    refine ev_get dMo_hold_11 fMo_26 hM.2.1.1 rfl ?_
    refine ev_iload_n dMo_hold_14 rfl rfl ?_
    refine ev_iload_n dMo_hold_15 rfl rfl ?_
    refine ev_zast dMo_hold_16 hM.2.1.g6 rfl rfl (by omega) (by decide) (hnar) ?_
    refine mo_ist (j := 6) (t := 2) (N := 70) hM (by decide) (fun h16 m16 => ?_)
    refine ev_iconst (v := nI 1) dMo_hold_17 (by decide) ?_
    refine ev_iret dMo_hold_18 rfl rfl ?_
    exact hk _ _ _ _ m16 (MoT_set hT hi rfl ag_6 ⟨k1, k2, k3, k4, pk_us, k6, k7, k8, k9⟩ k10 ⟨o.1, o.2.1, o.2.2.1, o.2.2.2.1, o.2.2.2.2.1, hb, o.2.2.2.2.2.2⟩) (rest_i (by omega))
  · refine ev_if_ne (tgt := 10) dMo_hold_5 (by decide) (fun q9 => absurd (by decide) q9) (fun _ => ?_)
    refine ev_iconst (v := nI 0) dMo_hold_8 (by decide) ?_
    refine ev_iret dMo_hold_9 rfl rfl ?_
    rw [hold_s, q] at hk
    exact hk _ _ _ _ hM hT mo_rest.rf
set_option maxRecDepth 20000 in
set_option maxHeartbeats 1000000 in
theorem Mo_warm_ok {x e : Int32} (hM : MoK h0 h ad tg T iv ia la) (hT : MoT iv ia la ts) (hk : ∀ h' iv' ia' la', MoK h0 h' ad tg T iv' ia' la' → MoT iv' ia' la' (warm_s ts x e).2 → mo_rest iv iv' ia ia' la la' → P (some (.int (warm_s ts x e).1)) h' n) : ev_Run G l (d + 1) bc bs mMo_warm 0 [some (.ref (ad 1000)), some (.int x), some (.int e)] [] h n P := by
  have h70 := hT.2.1
  refine ev_aload_n dMo_warm_0 rfl rfl ?_
  refine ev_iload_n dMo_warm_1 rfl rfl ?_
  refine cz_Mo_isThing dMo_warm_2 lMo_94 hM.2.1.1 (Nat.le_of_ble_eq_true rfl) (Mo_isThing_ok hM hT (fun i t q => ?_) (fun q => ?_))
  · rw [warm_s, q] at hk
    simp only [] at hk
    obtain ⟨rfl, e2, e3⟩ := fnd_some q
    have hi : i < ts.length := (List.getElem?_eq_some_iff.mp e2).1
    obtain ⟨⟨k1, k2, k3, k4, k5, k6, k7, k8, k9⟩, k10, o⟩ := hT.2.2.1 i t e2
    have hw := o.2.2.2.2.2.2.1
    refine ev_if_eq (tgt := 20) dMo_warm_5 (by decide) (fun q9 => absurd q9 (by decide)) (fun _ => ?_)
    refine ev_iload_n dMo_warm_8 rfl rfl ?_
    refine ev_iconst (v := nI 1) dMo_warm_9 (by decide) ?_
    refine ev_icmp_lt (tgt := 20) dMo_warm_10 (by decide) (fun c10 => ?_) (fun c10 => ?_)
    · refine ev_iconst (v := nI 0) dMo_warm_20 (by decide) ?_
      refine ev_iret dMo_warm_21 rfl rfl ?_
      rw [if_pos (Or.inl c10)] at hk
      exact hk _ _ _ _ hM hT mo_rest.rf
    · refine ev_iload_n dMo_warm_13 rfl rfl ?_
      refine ev_sipush (v := nI 4000) dMo_warm_14 (by decide) ?_
      refine ev_icmp_le (tgt := 22) dMo_warm_17 (by decide) (fun c17 => ?_) (fun c17 => ?_)
      · rw [if_neg (fun z => z.elim c10 (iI_le_nlt c17))] at hk
        obtain ⟨e', he1, he2, rfl⟩ := iI_in (by decide) (iI_nlt c10) c17
        rw [nI_clamp (by omega)] at hk
        refine ev_aload_n dMo_warm_22 rfl rfl ?_
        refine ev_get dMo_warm_23 fMo_30 hM.2.1.1 rfl ?_
        refine ev_iload_n dMo_warm_26 rfl rfl ?_
        refine ev_iload_n dMo_warm_27 rfl rfl ?_
        refine ev_aload_n dMo_warm_28 rfl rfl ?_
        refine ev_get dMo_warm_29 fMo_30 hM.2.1.1 rfl ?_
        refine ev_iload_n dMo_warm_32 rfl rfl ?_
        refine ev_iald dMo_warm_33 hM.2.1.g7 rfl rfl (by omega) (by decide) ?_
        refine ev_top (k6) ?_
        refine ev_icmp_le (tgt := 41) dMo_warm_34 (by decide) (fun c34 => ?_) (fun c34 => ?_)
        · rw [nI_leI (by omega) (by omega)] at c34
          rw [Nat.max_eq_left c34] at hk
          refine ev_aload_n dMo_warm_41 rfl rfl ?_
          refine ev_get dMo_warm_42 fMo_30 hM.2.1.1 rfl ?_
          refine ev_iload_n dMo_warm_45 rfl rfl ?_
          refine ev_iald dMo_warm_46 hM.2.1.g7 rfl rfl (by omega) (by decide) ?_
          refine ev_top (k6) ?_
          refine ev_iast dMo_warm_47 hM.2.1.g7 rfl rfl (by omega) (by decide) ?_
          refine mo_ist (j := 7) (t := 0) (N := 70) hM (by decide) (fun h47 m47 => ?_)
          refine ev_iconst (v := nI 1) dMo_warm_48 (by decide) ?_
          refine ev_iret dMo_warm_49 rfl rfl ?_
          exact hk _ _ _ _ m47 (MoT_set hT hi rfl ag_7 ⟨k1, k2, k3, k4, k5, pk_us, k7, k8, k9⟩ k10 ⟨o.1, o.2.1, o.2.2.1, o.2.2.2.1, o.2.2.2.2.1, o.2.2.2.2.2.1, hw, o.2.2.2.2.2.2.2⟩) (rest_i (by omega))
        · rw [nI_leI (by omega) (by omega)] at c34
          rw [Nat.max_eq_right (by omega)] at hk
          refine ev_iload_n dMo_warm_37 rfl rfl ?_
          refine ev_goto (tgt := 47) dMo_warm_38 (by decide) ?_
          refine ev_iast dMo_warm_47 hM.2.1.g7 rfl rfl (by omega) (by decide) ?_
          refine mo_ist (j := 7) (t := 0) (N := 70) hM (by decide) (fun h47 m47 => ?_)
          refine ev_iconst (v := nI 1) dMo_warm_48 (by decide) ?_
          refine ev_iret dMo_warm_49 rfl rfl ?_
          exact hk _ _ _ _ m47 (MoT_set hT hi rfl ag_7 ⟨k1, k2, k3, k4, k5, pk_us, k7, k8, k9⟩ k10 ⟨o.1, o.2.1, o.2.2.1, o.2.2.2.1, o.2.2.2.2.1, o.2.2.2.2.2.1, he2, o.2.2.2.2.2.2.2⟩) (rest_i (by omega))
      · skip
        refine ev_iconst (v := nI 0) dMo_warm_20 (by decide) ?_
        refine ev_iret dMo_warm_21 rfl rfl ?_
        rw [if_pos (Or.inr (iI_nle c17))] at hk
        exact hk _ _ _ _ hM hT mo_rest.rf
  · refine ev_if_eq (tgt := 20) dMo_warm_5 (by decide) (fun _ => ?_) (fun q9 => absurd (by decide) q9)
    refine ev_iconst (v := nI 0) dMo_warm_20 (by decide) ?_
    refine ev_iret dMo_warm_21 rfl rfl ?_
    rw [warm_s, q] at hk
    exact hk _ _ _ _ hM hT mo_rest.rf
end MO3
