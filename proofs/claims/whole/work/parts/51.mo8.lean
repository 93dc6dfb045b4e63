/-! the reference: signs -/
section MO8
variable {G : xG} {l : Launch} {d bc bs : Nat} {h h0 : xH} {n : Nat} {P : Option Value → xH → Nat → Prop} {ad tg : Nat → Nat} {T : Nat} {iv : Nat → Int32} {ia : Nat → Nat → Int32} {la : Nat → Nat → Int64} {ys : List Int32}
set_option maxRecDepth 20000 in
set_option maxHeartbeats 1000000 in
theorem Mo_sign_ok {a : Nat} {c v : Int32} (hc : ¬ c = -1) (ha : v = -1 → a ≤ ys.length) (hM : MoK h0 h ad tg T iv ia la) (hY : MoY iv ia ys) (h5 : iv 5 = nI a) (h6 : iv 6 = v) (hk : ∀ h' iv' a' v', MoK h0 h' ad tg T iv' ia la → iv' 5 = nI a' → iv' 6 = v' → (∀ j, j ≠ 5 → j ≠ 6 → iv' j = iv j) → (v' = -1 → a' ≤ ys.length) → sgn_r ys c a a' v v' → P none h' n) : ev_Run G l (d + 1) bc bs mMo_sign 0 [some (.ref (ad 1000)), some (.int c), none] [] h n P := by
  have y2 := hY.2.1
  have bad : ∀ iv1 h2, v = -1 → ¬ by_at ys (nI (skp ys a)) = c → iv1 5 = nI (skp ys a) → (∀ j, j ≠ 5 → iv1 j = iv j) → MoK h0 h2 ad tg T (upv (upv iv1 6 (iv1 5)) 5 (nI (skp ys a + 1))) ia la → P none h2 n := by
    intro iv1 h2 hv hne v5 vj m
    have hs := skp_le (ha hv)
    refine hk _ _ (skp ys a + 1) (nI (skp ys a)) m upv_s ((upv_n (by omega)).trans (upv_s.trans v5)) (fun j j1 j2 => (upv_n j1).trans ((upv_n j2).trans (vj j j1))) (fun z => absurd z (nI_ne1 (by omega))) ⟨fun _ => ?_, fun z => absurd hv z⟩
    rw [nsg, if_neg hne]
  refine ev_aload_n dMo_sign_0 rfl rfl ?_
  refine ev_get dMo_sign_1 fMo_154 hM.2.1.1 rfl ?_
  refine ev_iconst (v := -1) dMo_sign_4 (by decide) ?_
  refine ev_icmp_ne (tgt := 60) dMo_sign_5 (by decide) (fun c5 => ?_) (fun c5 => ?_)
  · refine ev_vret dMo_sign_60 rfl ?_
    exact hk _ _ a v hM h5 h6 (fun _ _ _ => rfl) ha ⟨fun z => absurd (h6.trans z) c5, fun _ => rfl⟩
  · refine ev_aload_n dMo_sign_8 rfl rfl ?_
    have hv : v = -1 := h6.symm.trans c5
    have hs := skp_le (ha hv)
    refine cz_Mo_skip dMo_sign_9 lMo_157 hM.2.1.1 (Nat.le_of_ble_eq_true rfl) (Mo_skip_ok (ha hv) hM hY h5 (fun h1 iv1 m1 v5 vj lt => ?_) (fun h1 iv1 m1 v5 vj eq => ?_))
    · have hx := hY.at lt
      refine ev_if_eq (tgt := 32) dMo_sign_12 (by decide) (fun q9 => absurd q9 (by decide)) (fun _ => ?_)
      refine ev_aload_n dMo_sign_15 rfl rfl ?_
      refine ev_get dMo_sign_16 fMo_48 m1.2.1.1 rfl ?_
      refine ev_aload_n dMo_sign_19 rfl rfl ?_
      refine ev_get dMo_sign_20 fMo_151 m1.2.1.1 rfl ?_
      refine ev_iald dMo_sign_23 m1.2.1.g13 rfl (v5) (by omega) (by decide) ?_
      refine ev_top (hx) ?_
      refine ev_iload_n dMo_sign_24 rfl rfl ?_
      refine ev_icmp_ne (tgt := 32) dMo_sign_25 (by decide) (fun c25 => ?_) (fun c25 => ?_)
      · refine ev_iconst (v := nI 0) dMo_sign_32 (by decide) ?_
        refine ev_istore_n dMo_sign_33 rfl (by decide) ?_
        refine ev_aload_n dMo_sign_34 rfl rfl ?_
        refine ev_iload_n dMo_sign_35 rfl rfl ?_
        refine ev_if_eq (tgt := 43) dMo_sign_36 (by decide) (fun c36 => ?_) (fun c36 => absurd ((by decide)) c36)
        refine ev_aload_n dMo_sign_43 rfl rfl ?_
        refine ev_get dMo_sign_44 fMo_151 m1.2.1.1 rfl ?_
        refine ev_put dMo_sign_47 fMo_154 tMo_27 m1.2.1.1 rfl rfl (Nat.le_of_ble_eq_true rfl) ?_
        refine mo_put m1 Mo_c6 (fun h47 m47 => ?_)
        refine ev_aload_n dMo_sign_50 rfl rfl ?_
        refine ev_dup dMo_sign_51 rfl ?_
        refine ev_get dMo_sign_52 fMo_151 m47.2.1.1 rfl ?_
        refine ev_iconst (v := nI 1) dMo_sign_55 (by decide) ?_
        refine ev_iadd dMo_sign_56 ?_
        refine ev_top (y := nI (skp ys a + 1)) (by rw [upv_n (by omega), v5]; exact nI_add _ _) ?_
        refine ev_put dMo_sign_57 fMo_151 tMo_26 m47.2.1.1 rfl rfl (Nat.le_of_ble_eq_true rfl) ?_
        refine mo_put m47 Mo_c5 (fun h57 m57 => ?_)
        refine ev_vret dMo_sign_60 rfl ?_
        exact bad _ _ hv c25 v5 vj m57
      · refine ev_iconst (v := nI 1) dMo_sign_28 (by decide) ?_
        refine ev_goto (tgt := 33) dMo_sign_29 (by decide) ?_
        refine ev_istore_n dMo_sign_33 rfl (by decide) ?_
        refine ev_aload_n dMo_sign_34 rfl rfl ?_
        refine ev_iload_n dMo_sign_35 rfl rfl ?_
        refine ev_if_eq (tgt := 43) dMo_sign_36 (by decide) (fun c36 => False.elim (absurd c36 (by decide))) (fun c36 => ?_)
        refine ev_iconst (v := -1) dMo_sign_39 (by decide) ?_
        refine ev_goto (tgt := 47) dMo_sign_40 (by decide) ?_
        refine ev_put dMo_sign_47 fMo_154 tMo_27 m1.2.1.1 rfl rfl (Nat.le_of_ble_eq_true rfl) ?_
        refine mo_put m1 Mo_c6 (fun h47 m47 => ?_)
        refine ev_aload_n dMo_sign_50 rfl rfl ?_
        refine ev_dup dMo_sign_51 rfl ?_
        refine ev_get dMo_sign_52 fMo_151 m47.2.1.1 rfl ?_
        refine ev_iconst (v := nI 1) dMo_sign_55 (by decide) ?_
        refine ev_iadd dMo_sign_56 ?_
        refine ev_top (y := nI (skp ys a + 1)) (by rw [upv_n (by omega), v5]; exact nI_add _ _) ?_
        refine ev_put dMo_sign_57 fMo_151 tMo_26 m47.2.1.1 rfl rfl (Nat.le_of_ble_eq_true rfl) ?_
        refine mo_put m47 Mo_c5 (fun h57 m57 => ?_)
        refine ev_vret dMo_sign_60 rfl ?_
        exact hk _ _ (skp ys a + 1) (-1) m57 upv_s ((upv_n (by omega)).trans upv_s) (fun j j1 j2 => (upv_n j1).trans ((upv_n j2).trans (vj j j1))) (fun _ => lt) ⟨fun _ => by rw [nsg, if_pos c25]; exact ⟨rfl, rfl⟩, fun z => absurd hv z⟩
    · have hx : ¬ by_at ys (nI (skp ys a)) = c := (by rw [by_at_end (by omega) (by omega)]; exact fun z => hc z.symm)
      refine ev_if_eq (tgt := 32) dMo_sign_12 (by decide) (fun _ => ?_) (fun q9 => absurd (by decide) q9)
      refine ev_iconst (v := nI 0) dMo_sign_32 (by decide) ?_
      refine ev_istore_n dMo_sign_33 rfl (by decide) ?_
      refine ev_aload_n dMo_sign_34 rfl rfl ?_
      refine ev_iload_n dMo_sign_35 rfl rfl ?_
      refine ev_if_eq (tgt := 43) dMo_sign_36 (by decide) (fun c36 => ?_) (fun c36 => absurd ((by decide)) c36)
      refine ev_aload_n dMo_sign_43 rfl rfl ?_
      refine ev_get dMo_sign_44 fMo_151 m1.2.1.1 rfl ?_
      refine ev_put dMo_sign_47 fMo_154 tMo_27 m1.2.1.1 rfl rfl (Nat.le_of_ble_eq_true rfl) ?_
      refine mo_put m1 Mo_c6 (fun h47 m47 => ?_)
      refine ev_aload_n dMo_sign_50 rfl rfl ?_
      refine ev_dup dMo_sign_51 rfl ?_
      refine ev_get dMo_sign_52 fMo_151 m47.2.1.1 rfl ?_
      refine ev_iconst (v := nI 1) dMo_sign_55 (by decide) ?_
      refine ev_iadd dMo_sign_56 ?_
      refine ev_top (y := nI (skp ys a + 1)) (by rw [upv_n (by omega), v5]; exact nI_add _ _) ?_
      refine ev_put dMo_sign_57 fMo_151 tMo_26 m47.2.1.1 rfl rfl (Nat.le_of_ble_eq_true rfl) ?_
      refine mo_put m47 Mo_c5 (fun h57 m57 => ?_)
      refine ev_vret dMo_sign_60 rfl ?_
      exact bad _ _ hv hx v5 vj m57
end MO8
