/-! the reference: numbers -/
section MO9
variable {G : xG} {l : Launch} {d bc bs : Nat} {h h0 : xH} {n : Nat} {P : Option Value → xH → Nat → Prop} {ad tg : Nat → Nat} {T : Nat} {iv : Nat → Int32} {ia : Nat → Nat → Int32} {la : Nat → Nat → Int64} {ys : List Int32}
set_option maxRecDepth 20000 in
set_option maxHeartbeats 2000000 in
theorem Mo_number_ok {a : Nat} {lo hi v : Int32} (ha : v = -1 → a ≤ ys.length) (hM : MoK h0 h ad tg T iv ia la) (hY : MoY iv ia ys) (h5 : iv 5 = nI a) (h6 : iv 6 = v) (hk : ∀ h' iv' a' v' w, MoK h0 h' ad tg T iv' ia la → iv' 5 = nI a' → iv' 6 = v' → (∀ j, j ≠ 5 → j ≠ 6 → iv' j = iv j) → (v' = -1 → a' ≤ ys.length) → num_r ys lo hi a a' v v' w → P (some (.int w)) h' n) : ev_Run G l (d + 1) bc bs mMo_number 0 [some (.ref (ad 1000)), some (.int lo), some (.int hi), none, none, none] [] h n P := by
  have y2 := hY.2.1
  have tail : ∀ b w x h' iv', v = -1 → dgc ys 6 (skp ys a) 0 = (w, b) → MoK h0 h' ad tg T iv' ia la → iv' 5 = nI b → (∀ j, j ≠ 5 → iv' j = iv j) → ev_Run G l (d + 1) bc bs mMo_number 80 [some (.ref (ad 1000)), some (.int lo), some (.int hi), x, some (.int (nI (skp ys a))), some (.int w)] [] h' n P := by
    intro b w x h' iv' hv hd hM' h5' hj
    have hs := skp_le (ha hv)
    have hY' : MoY iv' ia ys := hY.keep (hj 2 (by omega))
    have hb := dgc_le (ys := ys) (by omega) 6 (skp ys a) 0 hs
    rw [hd] at hb
    have hb : b ≤ ys.length := hb
    have hn : nnu ys lo hi a = if b = skp ys a ∨ dig (by_at ys (nI b)) then .inl b else if w < lo ∨ hi < w then .inl (skp ys a) else .inr (w, b) := by rw [nnu, hd]
    have bad : ∀ e h2, nnu ys lo hi a = .inl e → MoK h0 h2 ad tg T (upv iv' 6 (nI e)) ia la → P (some (.int (-1))) h2 n := by
      intro e h2 he m
      have hbd := nnu_bd (ys := ys) (lo := lo) (hi := hi) (by omega) (ha hv)
      rw [he] at hbd
      simp only [] at hbd
      refine hk _ _ b (nI e) (-1) m ((upv_n (by omega)).trans h5') upv_s (fun j j1 j2 => (upv_n j2).trans (hj j j1)) (fun z => absurd z (nI_ne1 (by omega))) ⟨fun _ => by rw [he], fun z => absurd hv z⟩
    have badE : ∀ e, nnu ys lo hi a = .inl e → e < 2 ^ 31 := by
      intro e he
      have hbd := nnu_bd (ys := ys) (lo := lo) (hi := hi) (by omega) (ha hv)
      rw [he] at hbd
      simp only [] at hbd
      omega
    have finB : ∀ e, nnu ys lo hi a = .inl e → ev_Run G l (d + 1) bc bs mMo_number 126 [some (.ref (ad 1000)), some (.int lo), some (.int hi), x, some (.int (nI (skp ys a))), some (.int w)] [.int (nI e), .ref (ad 1000)] h' n P := by
      intro e he
      have := badE e he
      refine ev_put dMo_number_126 fMo_154 tMo_27 hM'.2.1.1 rfl rfl (Nat.le_of_ble_eq_true rfl) ?_
      refine mo_put hM' Mo_c6 (fun h126 m126 => ?_)
      refine ev_aload_n dMo_number_129 rfl rfl ?_
      refine ev_get dMo_number_130 fMo_154 m126.2.1.1 rfl ?_
      refine ev_iconst (v := -1) dMo_number_133 (by decide) ?_
      refine ev_icmp_ne (tgt := 142) dMo_number_134 (by decide) (fun c134 => ?_) (fun c134 => ?_)
      · skip
        refine ev_iconst (v := -1) dMo_number_142 (by decide) ?_
        refine ev_iret dMo_number_143 rfl rfl ?_
        exact bad e _ he m126
      · exact absurd (upv_s.symm.trans c134) (nI_ne1 this)
        
    have finG : nnu ys lo hi a = .inr (w, b) → ev_Run G l (d + 1) bc bs mMo_number 126 [some (.ref (ad 1000)), some (.int lo), some (.int hi), x, some (.int (nI (skp ys a))), some (.int w)] [.int (-1), .ref (ad 1000)] h' n P := by
      intro he
      refine ev_put dMo_number_126 fMo_154 tMo_27 hM'.2.1.1 rfl rfl (Nat.le_of_ble_eq_true rfl) ?_
      refine mo_put hM' Mo_c6 (fun h126 m126 => ?_)
      refine ev_aload_n dMo_number_129 rfl rfl ?_
      refine ev_get dMo_number_130 fMo_154 m126.2.1.1 rfl ?_
      refine ev_iconst (v := -1) dMo_number_133 (by decide) ?_
      refine ev_icmp_ne (tgt := 142) dMo_number_134 (by decide) (fun c134 => False.elim (absurd upv_s c134)) (fun c134 => ?_)
      refine ev_iload dMo_number_137 rfl ?_
      refine ev_goto (tgt := 143) dMo_number_139 (by decide) ?_
      refine ev_iret dMo_number_143 rfl rfl ?_
      exact hk _ _ b (-1) w m126 ((upv_n (by omega)).trans h5') upv_s (fun j j1 j2 => (upv_n j2).trans (hj j j1)) (fun _ => hb) ⟨fun _ => by rw [he]; exact ⟨rfl, rfl, rfl⟩, fun z => absurd hv z⟩
    refine ev_aload_n dMo_number_80 rfl rfl ?_
    refine ev_aload_n dMo_number_81 rfl rfl ?_
    refine ev_get dMo_number_82 fMo_151 hM'.2.1.1 rfl ?_
    refine ev_iload dMo_number_85 rfl ?_
    refine ev_icmp_eq (tgt := 101) dMo_number_87 (by decide) (fun c87 => ?_) (fun c87 => ?_)
    · rw [h5'] at c87
      have e85 : b = skp ys a := (nI_eq (by omega) (by omega)).mp c87
      rw [if_pos (Or.inl e85)] at hn
      refine ev_aload_n dMo_number_101 rfl rfl ?_
      refine ev_get dMo_number_102 fMo_151 hM'.2.1.1 rfl ?_
      refine ev_goto (tgt := 126) dMo_number_105 (by decide) ?_
      rw [h5']
      exact finB b hn
    · have e85 : ¬ b = skp ys a := fun z => c87 (by rw [h5', z])
      refine ev_aload_n dMo_number_90 rfl rfl ?_
      refine ev_aload_n dMo_number_91 rfl rfl ?_
      refine ev_get dMo_number_92 fMo_151 hM'.2.1.1 rfl ?_
      refine cz_Mo_isDigit dMo_number_95 lMo_161 hM'.2.1.1 (Nat.le_of_ble_eq_true rfl) (Mo_isDigit_ok h5' hb hM' hY' (fun q1 => ?_) (fun q1 => ?_))
      · rw [if_pos (Or.inr q1)] at hn
        refine ev_if_eq (tgt := 108) dMo_number_98 (by decide) (fun q9 => absurd q9 (by decide)) (fun _ => ?_)
        refine ev_aload_n dMo_number_101 rfl rfl ?_
        refine ev_get dMo_number_102 fMo_151 hM'.2.1.1 rfl ?_
        refine ev_goto (tgt := 126) dMo_number_105 (by decide) ?_
        rw [h5']
        exact finB b hn
      · rw [if_neg (fun q => q.elim e85 q1)] at hn
        refine ev_if_eq (tgt := 108) dMo_number_98 (by decide) (fun _ => ?_) (fun q9 => absurd (by decide) q9)
        refine ev_iload dMo_number_108 rfl ?_
        refine ev_iload_n dMo_number_110 rfl rfl ?_
        refine ev_icmp_lt (tgt := 120) dMo_number_111 (by decide) (fun c111 => ?_) (fun c111 => ?_)
        · refine ev_iload dMo_number_120 rfl ?_
          refine ev_goto (tgt := 126) dMo_number_122 (by decide) ?_
          rw [if_pos (Or.inl c111)] at hn
          exact finB _ hn
        · refine ev_iload dMo_number_114 rfl ?_
          refine ev_iload_n dMo_number_116 rfl rfl ?_
          refine ev_icmp_le (tgt := 125) dMo_number_117 (by decide) (fun c117 => ?_) (fun c117 => ?_)
          · refine ev_iconst (v := -1) dMo_number_125 (by decide) ?_
            rw [if_neg (fun q => q.elim c111 (fun q => iI_le_nlt c117 q))] at hn
            exact finG hn
          · refine ev_iload dMo_number_120 rfl ?_
            refine ev_goto (tgt := 126) dMo_number_122 (by decide) ?_
            rw [if_pos (Or.inr (iI_nle c117))] at hn
            exact finB _ hn
  have loop : v = -1 → ∀ e j w x h' iv', j + e = 6 → skp ys a + j ≤ ys.length → dgc ys e (skp ys a + j) w = dgc ys 6 (skp ys a) 0 → MoK h0 h' ad tg T iv' ia la → iv' 5 = nI (skp ys a + j) → (∀ j, j ≠ 5 → iv' j = iv j) → ev_Run G l (d + 1) bc bs mMo_number 24 [some (.ref (ad 1000)), some (.int lo), some (.int hi), x, some (.int (nI (skp ys a))), some (.int w)] [] h' n P := by
    intro hv e
    have hs := skp_le (ha hv)
    induction e with
    | zero =>
      intro j w x h' iv' hj hb hd hM' h5' hjj
      have hY' : MoY iv' ia ys := hY.keep (hjj 2 (by omega))
      refine ev_aload_n dMo_number_24 rfl rfl ?_
      refine ev_aload_n dMo_number_25 rfl rfl ?_
      refine ev_get dMo_number_26 fMo_151 hM'.2.1.1 rfl ?_
      refine cz_Mo_isDigit dMo_number_29 lMo_161 hM'.2.1.1 (Nat.le_of_ble_eq_true rfl) (Mo_isDigit_ok h5' hb hM' hY' (fun q1 => ?_) (fun q1 => ?_))
      · refine ev_if_eq (tgt := 80) dMo_number_32 (by decide) (fun q9 => absurd q9 (by decide)) (fun _ => ?_)
        refine ev_aload_n dMo_number_35 rfl rfl ?_
        refine ev_get dMo_number_36 fMo_151 hM'.2.1.1 rfl ?_
        refine ev_iload dMo_number_39 rfl ?_
        refine ev_bipush (v := nI 6) dMo_number_41 (by decide) ?_
        refine ev_iadd dMo_number_43 ?_
        refine ev_top (nI_add _ _) ?_
        refine ev_icmp_ge (tgt := 80) dMo_number_44 (by decide) (fun c44 => ?_) (fun c44 => absurd ((by rw [h5']; exact nI_le (by omega) (by omega))) c44)
        exact tail _ w x h' iv' hv hd.symm hM' h5' hjj
      · refine ev_if_eq (tgt := 80) dMo_number_32 (by decide) (fun _ => ?_) (fun q9 => absurd (by decide) q9)
        exact tail _ w x h' iv' hv hd.symm hM' h5' hjj
    | succ e ih =>
      intro j w x h' iv' hj hb hd hM' h5' hjj
      have hY' : MoY iv' ia ys := hY.keep (hjj 2 (by omega))
      rw [dgc] at hd
      refine ev_aload_n dMo_number_24 rfl rfl ?_
      refine ev_aload_n dMo_number_25 rfl rfl ?_
      refine ev_get dMo_number_26 fMo_151 hM'.2.1.1 rfl ?_
      refine cz_Mo_isDigit dMo_number_29 lMo_161 hM'.2.1.1 (Nat.le_of_ble_eq_true rfl) (Mo_isDigit_ok h5' hb hM' hY' (fun q1 => ?_) (fun q1 => ?_))
      · rw [if_pos q1] at hd
        have hlt := (by_at_lt (ys := ys) (by omega) (dig_ne q1)).2
        have hv2 := hY.at hlt
        refine ev_if_eq (tgt := 80) dMo_number_32 (by decide) (fun q9 => absurd q9 (by decide)) (fun _ => ?_)
        refine ev_aload_n dMo_number_35 rfl rfl ?_
        refine ev_get dMo_number_36 fMo_151 hM'.2.1.1 rfl ?_
        refine ev_iload dMo_number_39 rfl ?_
        refine ev_bipush (v := nI 6) dMo_number_41 (by decide) ?_
        refine ev_iadd dMo_number_43 ?_
        refine ev_top (nI_add _ _) ?_
        refine ev_icmp_ge (tgt := 80) dMo_number_44 (by decide) (fun c44 => False.elim (absurd c44 (by rw [h5']; exact nI_ge (by omega) (by omega)))) (fun c44 => ?_)
        refine ev_bipush (v := nI 10) dMo_number_47 (by decide) ?_
        refine ev_iload dMo_number_49 rfl ?_
        refine ev_imul dMo_number_51 ?_
        refine ev_top (Int32.mul_comm _ _) ?_
        refine ev_aload_n dMo_number_52 rfl rfl ?_
        refine ev_get dMo_number_53 fMo_48 hM'.2.1.1 rfl ?_
        refine ev_aload_n dMo_number_56 rfl rfl ?_
        refine ev_get dMo_number_57 fMo_151 hM'.2.1.1 rfl ?_
        refine ev_iald dMo_number_60 hM'.2.1.g13 rfl (h5') (by omega) (by decide) ?_
        refine ev_top (hv2) ?_
        refine ev_iadd dMo_number_61 ?_
        refine ev_bipush (v := nI 48) dMo_number_62 (by decide) ?_
        refine ev_isub dMo_number_64 ?_
        refine ev_istore dMo_number_65 (by decide) ?_
        refine ev_aload_n dMo_number_67 rfl rfl ?_
        refine ev_dup dMo_number_68 rfl ?_
        refine ev_get dMo_number_69 fMo_151 hM'.2.1.1 rfl ?_
        refine ev_iconst (v := nI 1) dMo_number_72 (by decide) ?_
        refine ev_iadd dMo_number_73 ?_
        refine ev_top (y := nI (skp ys a + (j + 1))) (by rw [h5']; exact nI_add _ _) ?_
        refine ev_put dMo_number_74 fMo_151 tMo_26 hM'.2.1.1 rfl rfl (Nat.le_of_ble_eq_true rfl) ?_
        refine mo_put hM' Mo_c5 (fun h74 m74 => ?_)
        refine ev_goto (tgt := 24) dMo_number_77 (by decide) ?_
        exact ih (j + 1) _ _ _ _ (by omega) (by omega) hd m74 upv_s (fun k hk' => (upv_n hk').trans (hjj k hk'))
      · rw [if_neg q1] at hd
        refine ev_if_eq (tgt := 80) dMo_number_32 (by decide) (fun _ => ?_) (fun q9 => absurd (by decide) q9)
        exact tail _ w x h' iv' hv hd.symm hM' h5' hjj
  refine ev_aload_n dMo_number_0 rfl rfl ?_
  refine ev_get dMo_number_1 fMo_154 hM.2.1.1 rfl ?_
  refine ev_iconst (v := -1) dMo_number_4 (by decide) ?_
  refine ev_icmp_eq (tgt := 10) dMo_number_5 (by decide) (fun c5 => ?_) (fun c5 => ?_)
  · have hv : v = -1 := h6.symm.trans c5
    have hs := skp_le (ha hv)
    refine ev_aload_n dMo_number_10 rfl rfl ?_
    refine cz_Mo_skip dMo_number_11 lMo_157 hM.2.1.1 (Nat.le_of_ble_eq_true rfl) (Mo_skip_ok (ha hv) hM hY h5 (fun h1 iv1 m1 v5 vj lt => ?_) (fun h1 iv1 m1 v5 vj eq => ?_))
    · refine ev_istore_n dMo_number_14 rfl (by decide) ?_
      refine ev_aload_n dMo_number_15 rfl rfl ?_
      refine ev_get dMo_number_16 fMo_151 m1.2.1.1 rfl ?_
      refine ev_istore dMo_number_19 (by decide) ?_
      refine ev_iconst (v := nI 0) dMo_number_21 (by decide) ?_
      refine ev_istore dMo_number_22 (by decide) ?_
      rw [v5]
      exact loop hv 6 0 (nI 0) _ _ _ (by omega) hs rfl m1 v5 vj
    · refine ev_istore_n dMo_number_14 rfl (by decide) ?_
      refine ev_aload_n dMo_number_15 rfl rfl ?_
      refine ev_get dMo_number_16 fMo_151 m1.2.1.1 rfl ?_
      refine ev_istore dMo_number_19 (by decide) ?_
      refine ev_iconst (v := nI 0) dMo_number_21 (by decide) ?_
      refine ev_istore dMo_number_22 (by decide) ?_
      rw [v5]
      exact loop hv 6 0 (nI 0) _ _ _ (by omega) hs rfl m1 v5 vj
  · skip
    refine ev_iconst (v := -1) dMo_number_8 (by decide) ?_
    refine ev_iret dMo_number_9 rfl rfl ?_
    exact hk _ _ a v (-1) hM h5 h6 (fun _ _ _ => rfl) ha ⟨fun z => absurd (h6.trans z) c5, fun _ => rfl⟩
end MO9
