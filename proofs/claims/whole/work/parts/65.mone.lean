/-! the reference: name -/
section MONE
variable {G : xG} {l : Launch} {d bc bs : Nat} {h h0 : xH} {n : Nat} {P : Option Value → xH → Nat → Prop} {ad tg : Nat → Nat} {T : Nat} {iv : Nat → Int32} {ia : Nat → Nat → Int32} {la : Nat → Nat → Int64} {ts : List sT} {us : List sU}
set_option maxRecDepth 20000 in
set_option maxHeartbeats 2000000 in
theorem Mo_name_ok {b c D : Int32} (hM : MoK h0 h ad tg T iv ia la) (hT : MoT iv ia la ts) (hI : Iv ts) (hU : MoU iv ia us) (hk : P (some (.int (name_s ts us b c D))) h n) : ev_Run G l (d + 1) bc bs mMo_name 0 [some (.ref (ad 1000)), some (.int b), some (.int c), some (.int D), none, none, none, none] [] h n P := by
  have h70 := hT.2.1
  obtain ⟨u1, u2, u3⟩ := hU
  have no : name_s ts us b c D = nI 0 → P (some (.int (nI 0))) h n := fun he => by rw [he] at hk; exact hk
  have out : ∀ i t w4 k w7, fnd ts b = some (i, t) → k ≤ (t_ls t).length → name_s ts us b c D = nI 0 → ev_Run G l (d + 1) bc bs mMo_name 105 [some (.ref (ad 1000)), some (.int b), some (.int c), some (.int D), w4, some (.int (nI 0)), some (.int (nI k)), w7] [] h n P := by
    intro i t w4 k w7 q hkl he
    obtain ⟨ex, e2, e3⟩ := fnd_some q
    have hi : i < ts.length := (List.getElem?_eq_some_iff.mp e2).1
    obtain ⟨⟨k1, k2, -⟩, -⟩ := hT.2.2.1 i t e2
    refine ev_iload dMo_name_105 rfl ?_
    refine ev_aload_n dMo_name_107 rfl rfl ?_
    refine ev_get dMo_name_108 fMo_13 hM.2.1.1 rfl ?_
    refine ev_iload_n dMo_name_111 rfl rfl ?_
    refine ev_iald dMo_name_112 hM.2.1.g2 rfl (ex) (by omega) (by decide) ?_
    refine ev_top (k2) ?_
    refine ev_icmp_ge (tgt := 177) dMo_name_113 (by decide) (fun c113 => ?_) (fun c113 => ?_)
    · refine ev_iload dMo_name_177 rfl ?_
      refine ev_iret dMo_name_179 rfl rfl ?_
      exact no he
    · refine ev_iload dMo_name_116 rfl ?_
      refine ev_if_eq (tgt := 177) dMo_name_118 (by decide) (fun c118 => ?_) (fun c118 => absurd (rfl) c118)
      refine ev_iload dMo_name_177 rfl ?_
      refine ev_iret dMo_name_179 rfl rfl ?_
      exact no he
  have loop2 : ∀ i t r u, fnd ts b = some (i, t) → ¬ t_ls t = [] → frc us c D us.length = some r → us[r]? = some u → ∀ e k w7, k + e = (t_ls t).length → (∀ k' q, k' < k → (t_ls t)[k']? = some q → nm_ok ts u q.1) → ev_Run G l (d + 1) bc bs mMo_name 105 [some (.ref (ad 1000)), some (.int b), some (.int c), some (.int D), some (.int (nI r)), some (.int (nI 1)), some (.int (nI k)), w7] [] h n P := by
    intro i t r u q hne hf hu e
    obtain ⟨ex, e2, e3⟩ := fnd_some q
    have hi : i < ts.length := (List.getElem?_eq_some_iff.mp e2).1
    obtain ⟨⟨k1, k2, k3, -⟩, k10, -⟩ := hT.2.2.1 i t e2
    have hr : r < us.length := (List.getElem?_eq_some_iff.mp hu).1
    obtain ⟨v1, v2, v3, v4⟩ := u3 r u hu
    induction e with
    | zero =>
      intro k w7 hke hd
      rw [name_y q hne hf hu (fun p hp => by obtain ⟨k', hk', hp'⟩ := List.mem_iff_getElem.mp hp; exact hd k' p (by simp only [] at hk'; omega) (by rw [← hp']; exact List.getElem?_eq_getElem hk'))] at hk
      refine ev_iload dMo_name_105 rfl ?_
      refine ev_aload_n dMo_name_107 rfl rfl ?_
      refine ev_get dMo_name_108 fMo_13 hM.2.1.1 rfl ?_
      refine ev_iload_n dMo_name_111 rfl rfl ?_
      refine ev_iald dMo_name_112 hM.2.1.g2 rfl (ex) (by omega) (by decide) ?_
      refine ev_top (k2) ?_
      refine ev_icmp_ge (tgt := 177) dMo_name_113 (by decide) (fun c113 => ?_) (fun c113 => absurd (nI_le (by omega) (by omega)) c113)
      refine ev_iload dMo_name_177 rfl ?_
      refine ev_iret dMo_name_179 rfl rfl ?_
      exact hk
    | succ e ih =>
      intro k w7 hke hd
      obtain ⟨p, hp⟩ := sl_get (ls := t_ls t) (j := k) (by omega)
      obtain ⟨v, g1, g2, g3, g4, g5, g6⟩ := hI.lay (List.mem_of_getElem? e2) (List.mem_of_getElem? hp)
      obtain ⟨⟨m1, m2, m3, m4, m5, m6, m7, -⟩, -, mo⟩ := hT.2.2.1 p.1 v g1
      have bad : ¬ (u.2.1 ≤ nI (t_mark v) ∧ nI (t_mark v) ≤ u.2.2.1) → name_s ts us b c D = nI 0 := fun hb => name_n (fun p' h1 _ r' u' h2 h3 hall => by
        rw [q] at h1; cases h1; rw [hf] at h2; cases h2; rw [hu] at h3; cases h3
        obtain ⟨v', z1, z2, z3, z4⟩ := nm_iff.mp (hall p (List.mem_of_getElem? hp))
        rw [g1] at z1; cases z1
        exact hb ⟨z3, z4⟩)
      refine ev_iload dMo_name_105 rfl ?_
      refine ev_aload_n dMo_name_107 rfl rfl ?_
      refine ev_get dMo_name_108 fMo_13 hM.2.1.1 rfl ?_
      refine ev_iload_n dMo_name_111 rfl rfl ?_
      refine ev_iald dMo_name_112 hM.2.1.g2 rfl (ex) (by omega) (by decide) ?_
      refine ev_top (k2) ?_
      refine ev_icmp_ge (tgt := 177) dMo_name_113 (by decide) (fun c113 => False.elim (absurd c113 (nI_ge (by omega) (by omega)))) (fun c113 => ?_)
      refine ev_iload dMo_name_116 rfl ?_
      refine ev_if_eq (tgt := 177) dMo_name_118 (by decide) (fun c118 => False.elim (absurd c118 (by decide))) (fun c118 => ?_)
      refine ev_aload_n dMo_name_121 rfl rfl ?_
      refine ev_get dMo_name_122 fMo_33 hM.2.1.1 rfl ?_
      refine ev_aload_n dMo_name_125 rfl rfl ?_
      refine ev_get dMo_name_126 fMo_16 hM.2.1.1 rfl ?_
      refine ev_bipush (v := nI 81) dMo_name_129 (by decide) ?_
      refine ev_iload_n dMo_name_131 rfl rfl ?_
      refine ev_imul dMo_name_132 ?_
      refine ev_iload dMo_name_133 rfl ?_
      refine ev_iadd dMo_name_135 ?_
      refine ev_iald dMo_name_136 hM.2.1.g3 rfl ((by rw [ex]; exact mo_ix _ _)) (by omega) (by decide) ?_
      refine ev_top ((k3 k p hp).1) ?_
      refine ev_iald dMo_name_137 hM.2.1.g8 rfl rfl (by omega) (by decide) ?_
      refine ev_top (m7) ?_
      refine ev_istore dMo_name_138 (by decide) ?_
      refine ev_iload dMo_name_140 rfl ?_
      refine ev_aload_n dMo_name_142 rfl rfl ?_
      refine ev_get dMo_name_143 fMo_54 hM.2.1.1 rfl ?_
      refine ev_iload dMo_name_146 rfl ?_
      refine ev_iald dMo_name_148 hM.2.1.g15 rfl rfl (by omega) (by decide) ?_
      refine ev_top (v2) ?_
      refine ev_icmp_lt (tgt := 168) dMo_name_149 (by decide) (fun c149 => ?_) (fun c149 => ?_)
      · refine ev_iconst (v := nI 0) dMo_name_168 (by decide) ?_
        refine ev_istore dMo_name_169 (by decide) ?_
        refine ev_iinc dMo_name_171 rfl (ev_inc1 _) (by decide) ?_
        refine ev_goto (tgt := 105) dMo_name_174 (by decide) ?_
        exact out i t _ (k + 1) _ q (by omega) (bad (fun z => iI_le_nlt z.1 c149))
      · refine ev_iload dMo_name_152 rfl ?_
        refine ev_aload_n dMo_name_154 rfl rfl ?_
        refine ev_get dMo_name_155 fMo_57 hM.2.1.1 rfl ?_
        refine ev_iload dMo_name_158 rfl ?_
        refine ev_iald dMo_name_160 hM.2.1.g16 rfl rfl (by omega) (by decide) ?_
        refine ev_top (v3) ?_
        refine ev_icmp_gt (tgt := 168) dMo_name_161 (by decide) (fun c161 => ?_) (fun c161 => ?_)
        · refine ev_iconst (v := nI 0) dMo_name_168 (by decide) ?_
          refine ev_istore dMo_name_169 (by decide) ?_
          refine ev_iinc dMo_name_171 rfl (ev_inc1 _) (by decide) ?_
          refine ev_goto (tgt := 105) dMo_name_174 (by decide) ?_
          exact out i t _ (k + 1) _ q (by omega) (bad (fun z => iI_le_nlt z.2 c161))
        · refine ev_iconst (v := nI 1) dMo_name_164 (by decide) ?_
          refine ev_goto (tgt := 169) dMo_name_165 (by decide) ?_
          refine ev_istore dMo_name_169 (by decide) ?_
          refine ev_iinc dMo_name_171 rfl (ev_inc1 _) (by decide) ?_
          refine ev_goto (tgt := 105) dMo_name_174 (by decide) ?_
          exact ih (k + 1) _ (by omega) (fun k' q' hk' hq' => by rcases Nat.lt_or_ge k' k with z | z; exact hd k' q' z hq'; (have : k' = k := (by omega); subst this; rw [hp] at hq'; cases hq'; exact nm_iff.mpr ⟨v, g1, g2, iI_nlt c149, iI_nlt c161⟩))
  have loop : ∀ i t, fnd ts b = some (i, t) → ¬ t_ls t = [] → ∀ e j, j + e = us.length → ev_Run G l (d + 1) bc bs mMo_name 25 [some (.ref (ad 1000)), some (.int b), some (.int c), some (.int D), some (.int (fv (frc us c D j))), some (.int (nI j)), none, none] [] h n P := by
    intro i t q hne e
    induction e with
    | zero =>
      intro j hj
      have : j = us.length := by omega
      subst this
      cases hf : frc us c D us.length with
      | none =>
        have he : name_s ts us b c D = nI 0 := name_n (fun p h1 _ r u h2 => by rw [hf] at h2; cases h2)
        refine ev_iload dMo_name_25 rfl ?_
        refine ev_aload_n dMo_name_27 rfl rfl ?_
        refine ev_get dMo_name_28 fMo_175 hM.2.1.1 rfl ?_
        refine ev_icmp_ge (tgt := 89) dMo_name_31 (by decide) (fun c31 => ?_) (fun c31 => absurd ((show iv 3 ≤ nI us.length by rw [u1]; exact Int32.le_refl _)) c31)
        refine ev_iload dMo_name_89 rfl ?_
        refine ev_iconst (v := -1) dMo_name_91 (by decide) ?_
        refine ev_icmp_eq (tgt := 99) dMo_name_92 (by decide) (fun c92 => ?_) (fun c92 => absurd (rfl) c92)
        refine ev_iconst (v := nI 0) dMo_name_99 (by decide) ?_
        refine ev_istore dMo_name_100 (by decide) ?_
        refine ev_iconst (v := nI 0) dMo_name_102 (by decide) ?_
        refine ev_istore dMo_name_103 (by decide) ?_
        exact out i t _ 0 _ q (Nat.zero_le _) he
      | some r =>
        have hr := frc_lt _ _ hf
        obtain ⟨u, hu⟩ : ∃ u, us[r]? = some u := ⟨_, List.getElem?_eq_getElem hr.2⟩
        refine ev_iload dMo_name_25 rfl ?_
        refine ev_aload_n dMo_name_27 rfl rfl ?_
        refine ev_get dMo_name_28 fMo_175 hM.2.1.1 rfl ?_
        refine ev_icmp_ge (tgt := 89) dMo_name_31 (by decide) (fun c31 => ?_) (fun c31 => absurd ((show iv 3 ≤ nI us.length by rw [u1]; exact Int32.le_refl _)) c31)
        refine ev_iload dMo_name_89 rfl ?_
        refine ev_iconst (v := -1) dMo_name_91 (by decide) ?_
        refine ev_icmp_eq (tgt := 99) dMo_name_92 (by decide) (fun c92 => False.elim (absurd c92 (nI_ne1 (by omega)))) (fun c92 => ?_)
        refine ev_iconst (v := nI 1) dMo_name_95 (by decide) ?_
        refine ev_goto (tgt := 100) dMo_name_96 (by decide) ?_
        refine ev_istore dMo_name_100 (by decide) ?_
        refine ev_iconst (v := nI 0) dMo_name_102 (by decide) ?_
        refine ev_istore dMo_name_103 (by decide) ?_
        exact loop2 i t r u q hne hf hu (t_ls t).length 0 _ (by omega) (fun k' q' hk' => absurd hk' (by omega))
    | succ e ih =>
      intro j hj
      obtain ⟨u, hu⟩ : ∃ u, us[j]? = some u := ⟨_, List.getElem?_eq_getElem (by omega)⟩
      obtain ⟨v1, v2, v3, v4⟩ := u3 j u hu
      have hq := ih (j + 1) (by omega)
      cases hf : frc us c D j with
      | none =>
        refine ev_iload dMo_name_25 rfl ?_
        refine ev_aload_n dMo_name_27 rfl rfl ?_
        refine ev_get dMo_name_28 fMo_175 hM.2.1.1 rfl ?_
        refine ev_icmp_ge (tgt := 89) dMo_name_31 (by decide) (fun c31 => False.elim (absurd (show nI us.length ≤ nI j by rw [← u1]; exact c31) (nI_ge (by omega) (by omega)))) (fun c31 => ?_)
        refine ev_aload_n dMo_name_34 rfl rfl ?_
        refine ev_get dMo_name_35 fMo_51 hM.2.1.1 rfl ?_
        refine ev_iload dMo_name_38 rfl ?_
        refine ev_iald dMo_name_40 hM.2.1.g14 rfl rfl (by omega) (by decide) ?_
        refine ev_top (v1) ?_
        refine ev_iload_n dMo_name_41 rfl rfl ?_
        refine ev_icmp_ne (tgt := 83) dMo_name_42 (by decide) (fun c42 => ?_) (fun c42 => ?_)
        · rw [frc_no hu (fun z => c42 z.1), hf] at hq
          refine ev_iinc dMo_name_83 rfl (ev_inc1 _) (by decide) ?_
          refine ev_goto (tgt := 25) dMo_name_86 (by decide) ?_
          exact hq
        · skip
          refine ev_aload_n dMo_name_45 rfl rfl ?_
          refine ev_get dMo_name_46 fMo_60 hM.2.1.1 rfl ?_
          refine ev_iload dMo_name_49 rfl ?_
          refine ev_iald dMo_name_51 hM.2.1.g17 rfl rfl (by omega) (by decide) ?_
          refine ev_top (v4) ?_
          refine ev_iload_n dMo_name_52 rfl rfl ?_
          refine ev_icmp_gt (tgt := 83) dMo_name_53 (by decide) (fun c53 => ?_) (fun c53 => ?_)
          · rw [frc_no hu (fun z => iI_le_nlt z.2 c53), hf] at hq
            refine ev_iinc dMo_name_83 rfl (ev_inc1 _) (by decide) ?_
            refine ev_goto (tgt := 25) dMo_name_86 (by decide) ?_
            exact hq
          · rw [frc_new hu ⟨c42, iI_nlt c53⟩ hf] at hq
            refine ev_iload dMo_name_56 rfl ?_
            refine ev_iconst (v := -1) dMo_name_58 (by decide) ?_
            refine ev_icmp_eq (tgt := 79) dMo_name_59 (by decide) (fun c59 => ?_) (fun c59 => absurd (rfl) c59)
            refine ev_iload dMo_name_79 rfl ?_
            refine ev_istore dMo_name_81 (by decide) ?_
            refine ev_iinc dMo_name_83 rfl (ev_inc1 _) (by decide) ?_
            refine ev_goto (tgt := 25) dMo_name_86 (by decide) ?_
            exact hq
      | some b' =>
        have hr := frc_lt _ _ hf
        obtain ⟨w, hw⟩ : ∃ w, us[b']? = some w := ⟨_, List.getElem?_eq_getElem hr.2⟩
        obtain ⟨x1, x2, x3, x4⟩ := u3 b' w hw
        refine ev_iload dMo_name_25 rfl ?_
        refine ev_aload_n dMo_name_27 rfl rfl ?_
        refine ev_get dMo_name_28 fMo_175 hM.2.1.1 rfl ?_
        refine ev_icmp_ge (tgt := 89) dMo_name_31 (by decide) (fun c31 => False.elim (absurd (show nI us.length ≤ nI j by rw [← u1]; exact c31) (nI_ge (by omega) (by omega)))) (fun c31 => ?_)
        refine ev_aload_n dMo_name_34 rfl rfl ?_
        refine ev_get dMo_name_35 fMo_51 hM.2.1.1 rfl ?_
        refine ev_iload dMo_name_38 rfl ?_
        refine ev_iald dMo_name_40 hM.2.1.g14 rfl rfl (by omega) (by decide) ?_
        refine ev_top (v1) ?_
        refine ev_iload_n dMo_name_41 rfl rfl ?_
        refine ev_icmp_ne (tgt := 83) dMo_name_42 (by decide) (fun c42 => ?_) (fun c42 => ?_)
        · rw [frc_no hu (fun z => c42 z.1), hf] at hq
          refine ev_iinc dMo_name_83 rfl (ev_inc1 _) (by decide) ?_
          refine ev_goto (tgt := 25) dMo_name_86 (by decide) ?_
          exact hq
        · skip
          refine ev_aload_n dMo_name_45 rfl rfl ?_
          refine ev_get dMo_name_46 fMo_60 hM.2.1.1 rfl ?_
          refine ev_iload dMo_name_49 rfl ?_
          refine ev_iald dMo_name_51 hM.2.1.g17 rfl rfl (by omega) (by decide) ?_
          refine ev_top (v4) ?_
          refine ev_iload_n dMo_name_52 rfl rfl ?_
          refine ev_icmp_gt (tgt := 83) dMo_name_53 (by decide) (fun c53 => ?_) (fun c53 => ?_)
          · rw [frc_no hu (fun z => iI_le_nlt z.2 c53), hf] at hq
            refine ev_iinc dMo_name_83 rfl (ev_inc1 _) (by decide) ?_
            refine ev_goto (tgt := 25) dMo_name_86 (by decide) ?_
            exact hq
          · rw [frc_up hu ⟨c42, iI_nlt c53⟩ hf hw] at hq
            refine ev_iload dMo_name_56 rfl ?_
            refine ev_iconst (v := -1) dMo_name_58 (by decide) ?_
            refine ev_icmp_eq (tgt := 79) dMo_name_59 (by decide) (fun c59 => False.elim (absurd c59 (nI_ne1 (by omega)))) (fun c59 => ?_)
            refine ev_aload_n dMo_name_62 rfl rfl ?_
            refine ev_get dMo_name_63 fMo_60 hM.2.1.1 rfl ?_
            refine ev_iload dMo_name_66 rfl ?_
            refine ev_iald dMo_name_68 hM.2.1.g17 rfl rfl (by omega) (by decide) ?_
            refine ev_top (v4) ?_
            refine ev_aload_n dMo_name_69 rfl rfl ?_
            refine ev_get dMo_name_70 fMo_60 hM.2.1.1 rfl ?_
            refine ev_iload dMo_name_73 rfl ?_
            refine ev_iald dMo_name_75 hM.2.1.g17 rfl rfl (by omega) (by decide) ?_
            refine ev_top (x4) ?_
            refine ev_icmp_lt (tgt := 83) dMo_name_76 (by decide) (fun c76 => ?_) (fun c76 => ?_)
            · rw [if_neg (fun z => iI_le_nlt z c76)] at hq
              refine ev_iinc dMo_name_83 rfl (ev_inc1 _) (by decide) ?_
              refine ev_goto (tgt := 25) dMo_name_86 (by decide) ?_
              exact hq
            · rw [if_pos (iI_nlt c76)] at hq
              refine ev_iload dMo_name_79 rfl ?_
              refine ev_istore dMo_name_81 (by decide) ?_
              refine ev_iinc dMo_name_83 rfl (ev_inc1 _) (by decide) ?_
              refine ev_goto (tgt := 25) dMo_name_86 (by decide) ?_
              exact hq
  refine ev_aload_n dMo_name_0 rfl rfl ?_
  refine ev_iload_n dMo_name_1 rfl rfl ?_
  refine cz_Mo_isThing dMo_name_2 lMo_94 hM.2.1.1 (Nat.le_of_ble_eq_true rfl) (Mo_isThing_ok hM hT (fun i t q => ?_) (fun q => ?_))
  · obtain ⟨ex, e2, e3⟩ := fnd_some q
    have hi : i < ts.length := (List.getElem?_eq_some_iff.mp e2).1
    obtain ⟨⟨k1, k2, -⟩, k10, o⟩ := hT.2.2.1 i t e2
    refine ev_if_eq (tgt := 17) dMo_name_5 (by decide) (fun q9 => absurd q9 (by decide)) (fun _ => ?_)
    refine ev_aload_n dMo_name_8 rfl rfl ?_
    refine ev_get dMo_name_9 fMo_13 hM.2.1.1 rfl ?_
    refine ev_iload_n dMo_name_12 rfl rfl ?_
    refine ev_iald dMo_name_13 hM.2.1.g2 rfl (ex) (by omega) (by decide) ?_
    refine ev_top (k2) ?_
    refine ev_if_ne (tgt := 19) dMo_name_14 (by decide) (fun c14 => ?_) (fun c14 => ?_)
    · have hne : ¬ t_ls t = [] := (fun z => c14 (by rw [z]; rfl))
      refine ev_iconst (v := -1) dMo_name_19 (by decide) ?_
      refine ev_istore dMo_name_20 (by decide) ?_
      refine ev_iconst (v := nI 0) dMo_name_22 (by decide) ?_
      refine ev_istore dMo_name_23 (by decide) ?_
      exact loop i t q hne us.length 0 (by omega)
    · skip
      refine ev_iconst (v := nI 0) dMo_name_17 (by decide) ?_
      refine ev_iret dMo_name_18 rfl rfl ?_
      exact no (name_n (fun p h1 h2 => by rw [q] at h1; cases h1; exact absurd (List.length_eq_zero_iff.mp ((nI_eq (by omega) (by decide)).mp c14)) h2))
  · refine ev_if_eq (tgt := 17) dMo_name_5 (by decide) (fun _ => ?_) (fun q9 => absurd (by decide) q9)
    refine ev_iconst (v := nI 0) dMo_name_17 (by decide) ?_
    refine ev_iret dMo_name_18 rfl rfl ?_
    exact no (name_n (fun p h1 => by rw [q] at h1; cases h1))
end MONE
