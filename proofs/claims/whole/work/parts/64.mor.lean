/-! the reference: share, back, recalls -/
section MOR
variable {G : xG} {l : Launch} {d bc bs : Nat} {h h0 : xH} {n : Nat} {P : Option Value → xH → Nat → Prop} {ad tg : Nat → Nat} {T : Nat} {iv : Nat → Int32} {ia : Nat → Nat → Int32} {la : Nat → Nat → Int64} {ts : List sT}
set_option maxRecDepth 20000 in
set_option maxHeartbeats 2000000 in
theorem Mo_share_ok {x y w : Int32} (hM : MoK h0 h ad tg T iv ia la) (hT : MoT iv ia la ts) (hk : P (some (.long (share_s ts x y w))) h n) : ev_Run G l (d + 2) bc bs mMo_share 0 [some (.ref (ad 1000)), some (.int x), some (.int y), some (.int w), none, none, none, none, none, none, none, none, none, none] [] h n P := by
  have h70 := hT.2.1
  have refuse : share_s ts x y w = -1 → P (some (.long (-1))) h n := fun he => by rw [he] at hk; exact hk
  have hgc : ∀ x y, Nat.gcd y (x % y) = Nat.gcd x y := fun x y => by rw [Nat.gcd_comm x y, Nat.gcd_rec y x, Nat.gcd_comm]
  have main : ∀ i t j v, fnd ts x = some (i, t) → fnd ts y = some (j, v) → t_kind v = 1 → 1 ≤ sl_tot (t_ls t) → (w = nI 0 ∨ w = nI 1) → ev_Run G l (d + 2) bc bs mMo_share 39 [some (.ref (ad 1000)), some (.int x), some (.int y), some (.int w), none, none, none, none, none, none, none, none, none, none] [] h n P := by
    intro i t j v q1 q3 qk h1 hw
    obtain ⟨rfl, e2, e3⟩ := fnd_some q1
    obtain ⟨rfl, f2, f3⟩ := fnd_some q3
    have hi : i < ts.length := (List.getElem?_eq_some_iff.mp e2).1
    have hj : j < ts.length := (List.getElem?_eq_some_iff.mp f2).1
    obtain ⟨-, k10, o⟩ := hT.2.2.1 i t e2
    have htl := sl_tot_lt o.2.2.2.2.2.2.2.2.1 k10
    have hol := sl_of_le (t_ls t) j
    have hg1 : 0 < Nat.gcd (sl_tot (t_ls t)) (sl_of (t_ls t) j) := Nat.gcd_pos_of_pos_left _ h1
    have hg2 : Nat.gcd (sl_tot (t_ls t)) (sl_of (t_ls t) j) ≤ sl_tot (t_ls t) := Nat.le_of_dvd h1 (Nat.gcd_dvd_left _ _)
    have hs := share_yes q1 q3 ⟨qk, h1, hw⟩
    simp only [] at hs
    rw [hs] at hk
    generalize hA : sl_of (t_ls t) j = A at *
    generalize hB : sl_tot (t_ls t) = B at *
    have fin : ∀ a r, a = Nat.gcd B A → ev_Run G l (d + 2) bc bs mMo_share 62 [some (.ref (ad 1000)), some (.int (nI i)), some (.int (nI j)), some (.int w), some (.long (lN A)), none, some (.long (lN B)), none, some (.long (lN a)), none, some (.long (lN 0)), none, r, none] [] h n P := by
      rintro a r rfl
      refine ev_lload dMo_share_62 rfl ?_
      refine ev_lconst (v := lN 0) dMo_share_64 (by decide) ?_
      refine ev_lcmp_le (tgt := 87) dMo_share_65 dMo_share_66 (by decide) (fun c65 => ?_) (fun c65 => absurd (Int64.le_refl _) c65)
      refine ev_iload_n dMo_share_87 rfl rfl ?_
      refine ev_if_ne (tgt := 99) dMo_share_88 (by decide) (fun c88 => ?_) (fun c88 => ?_)
      · refine ev_lload dMo_share_99 rfl ?_
        refine ev_lload dMo_share_101 rfl ?_
        refine ev_ldiv dMo_share_103 (lN_ne0 hg1 (by omega)) ?_
        refine ev_lret dMo_share_104 rfl ?_
        rw [pk_lDiv (by omega) hg1 (by omega)]
        rw [if_neg (show ¬ w = nI 0 from c88)] at hk
        exact hk
      · refine ev_lload dMo_share_91 rfl ?_
        refine ev_lload dMo_share_93 rfl ?_
        refine ev_ldiv dMo_share_95 (lN_ne0 hg1 (by omega)) ?_
        refine ev_goto (tgt := 104) dMo_share_96 (by decide) ?_
        refine ev_lret dMo_share_104 rfl ?_
        rw [pk_lDiv (by omega) hg1 (by omega)]
        rw [if_pos (show w = nI 0 from c88)] at hk
        exact hk
    have loop : ∀ N a b r, b ≤ N → a < 2 ^ 62 → b < 2 ^ 62 → Nat.gcd a b = Nat.gcd B A → ev_Run G l (d + 2) bc bs mMo_share 62 [some (.ref (ad 1000)), some (.int (nI i)), some (.int (nI j)), some (.int w), some (.long (lN A)), none, some (.long (lN B)), none, some (.long (lN a)), none, some (.long (lN b)), none, r, none] [] h n P := by
      intro N
      induction N with
      | zero =>
        intro a b r hb ha hb2 he
        have : b = 0 := Nat.le_zero.mp hb
        subst this
        exact fin a r (by rw [← he, Nat.gcd_zero_right])
      | succ N ih =>
        intro a b r hb ha hb2 he
        by_cases hb0 : b = 0
        · subst hb0
          exact fin a r (by rw [← he, Nat.gcd_zero_right])
        · have hr := Nat.mod_lt a (show 0 < b by omega)
          refine ev_lload dMo_share_62 rfl ?_
          refine ev_lconst (v := lN 0) dMo_share_64 (by decide) ?_
          refine ev_lcmp_le (tgt := 87) dMo_share_65 dMo_share_66 (by decide) (fun c65 => False.elim (absurd c65 (lN_pos (by omega) (by omega)))) (fun c65 => ?_)
          refine ev_lload dMo_share_69 rfl ?_
          refine ev_lload dMo_share_71 rfl ?_
          refine ev_lrem dMo_share_73 (lN_ne0 (by omega) (by omega)) ?_
          refine ev_topl (y := lN (a % b)) (pk_lRem (by omega) (by omega) (by omega)) ?_
          refine ev_lstore dMo_share_74 (by decide) ?_
          refine ev_lload dMo_share_76 rfl ?_
          refine ev_lstore dMo_share_78 (by decide) ?_
          refine ev_lload dMo_share_80 rfl ?_
          refine ev_lstore dMo_share_82 (by decide) ?_
          refine ev_goto (tgt := 62) dMo_share_84 (by decide) ?_
          exact ih b (a % b) _ (by omega) (by omega) (by omega) (by rw [hgc]; exact he)
    refine ev_aload_n dMo_share_39 rfl rfl ?_
    refine ev_iload_n dMo_share_40 rfl rfl ?_
    refine ev_iload_n dMo_share_41 rfl rfl ?_
    refine cz_Mo_gramsFrom dMo_share_42 lMo_140 hM.2.1.1 (Nat.le_of_ble_eq_true rfl) (Mo_gramsFrom_ok hM hT e2 (by omega) ?_)
    rw [hA]
    refine ev_lstore dMo_share_45 (by decide) ?_
    refine ev_aload_n dMo_share_47 rfl rfl ?_
    refine ev_iload_n dMo_share_48 rfl rfl ?_
    refine cz_Mo_gramsIn dMo_share_49 lMo_112 hM.2.1.1 (Nat.le_of_ble_eq_true rfl) (Mo_gramsIn_ok hM hT e2 ?_)
    rw [hB]
    refine ev_lstore dMo_share_52 (by decide) ?_
    refine ev_lload dMo_share_54 rfl ?_
    refine ev_lstore dMo_share_56 (by decide) ?_
    refine ev_lload dMo_share_58 rfl ?_
    refine ev_lstore dMo_share_60 (by decide) ?_
    exact loop A B A _ (Nat.le_refl _) (by omega) (by omega) rfl
  refine ev_aload_n dMo_share_0 rfl rfl ?_
  refine ev_iload_n dMo_share_1 rfl rfl ?_
  refine cz_Mo_isThing dMo_share_2 lMo_94 hM.2.1.1 (Nat.le_of_ble_eq_true rfl) (Mo_isThing_ok hM hT (fun i t q1 => ?_) (fun q1 => ?_))
  · obtain ⟨ex, e2, e3⟩ := fnd_some q1
    have hi : i < ts.length := (List.getElem?_eq_some_iff.mp e2).1
    obtain ⟨⟨k1, k2, -⟩, k10, o⟩ := hT.2.2.1 i t e2
    refine ev_if_eq (tgt := 35) dMo_share_5 (by decide) (fun q9 => absurd q9 (by decide)) (fun _ => ?_)
    refine ev_aload_n dMo_share_8 rfl rfl ?_
    refine ev_iload_n dMo_share_9 rfl rfl ?_
    refine ev_iconst (v := nI 1) dMo_share_10 (by decide) ?_
    refine cz_Mo_isOf dMo_share_11 lMo_116 hM.2.1.1 (Nat.le_of_ble_eq_true rfl) (Mo_isOf_ok (w := 1) (by decide) hM hT (fun j v q3 qk => ?_) (fun q3 => ?_))
    · refine ev_if_eq (tgt := 35) dMo_share_14 (by decide) (fun q9 => absurd q9 (by decide)) (fun _ => ?_)
      refine ev_aload_n dMo_share_17 rfl rfl ?_
      refine ev_get dMo_share_18 fMo_13 hM.2.1.1 rfl ?_
      refine ev_iload_n dMo_share_21 rfl rfl ?_
      refine ev_iald dMo_share_22 hM.2.1.g2 rfl (ex) (by omega) (by decide) ?_
      refine ev_top (k2) ?_
      refine ev_if_eq (tgt := 35) dMo_share_23 (by decide) (fun c23 => ?_) (fun c23 => ?_)
      · skip
        refine ev_ldc2 (v := -1) dMo_share_35 qMo_138 ?_
        refine ev_lret dMo_share_38 rfl ?_
        exact refuse (share_no (fun p q h1 _ z => by rw [q1] at h1; cases h1; have hl : (t_ls t).length = 0 := (nI_eq (by omega) (by decide)).mp c23; have : t_ls t = [] := List.length_eq_zero_iff.mp hl; have := z.2.1; simp_all [sl_tot]))
      · have h1 : 1 ≤ sl_tot (t_ls t) := tot_0 o.2.2.2.2.2.2.2.2.1 (by rcases Nat.eq_zero_or_pos (t_ls t).length with z | z; exact absurd (by rw [z]; rfl) c23; exact z)
        refine ev_iload_n dMo_share_26 rfl rfl ?_
        refine ev_if_eq (tgt := 39) dMo_share_27 (by decide) (fun c27 => ?_) (fun c27 => ?_)
        · exact main i t j v q1 q3 qk h1 (Or.inl c27)
        · refine ev_iload_n dMo_share_30 rfl rfl ?_
          refine ev_iconst (v := nI 1) dMo_share_31 (by decide) ?_
          refine ev_icmp_eq (tgt := 39) dMo_share_32 (by decide) (fun c32 => ?_) (fun c32 => ?_)
          · exact main i t j v q1 q3 qk h1 (Or.inr c32)
          · refine ev_ldc2 (v := -1) dMo_share_35 qMo_138 ?_
            refine ev_lret dMo_share_38 rfl ?_
            exact refuse (share_no (fun p q _ _ z => z.2.2.elim c27 c32))
    · refine ev_if_eq (tgt := 35) dMo_share_14 (by decide) (fun _ => ?_) (fun q9 => absurd (by decide) q9)
      refine ev_ldc2 (v := -1) dMo_share_35 qMo_138 ?_
      refine ev_lret dMo_share_38 rfl ?_
      exact refuse (share_no (fun p q _ h2 z => q3 q.1 q.2 h2 z.1))
  · refine ev_if_eq (tgt := 35) dMo_share_5 (by decide) (fun _ => ?_) (fun q9 => absurd (by decide) q9)
    refine ev_ldc2 (v := -1) dMo_share_35 qMo_138 ?_
    refine ev_lret dMo_share_38 rfl ?_
    exact refuse (share_no (fun p q h1 _ => by rw [q1] at h1; cases h1))
set_option maxRecDepth 20000 in
set_option maxHeartbeats 1000000 in
theorem Mo_back_ok {x k : Int32} (hM : MoK h0 h ad tg T iv ia la) (hT : MoT iv ia la ts) (hI : Iv ts) (hk : P (some (.int (back_s ts x k))) h n) : ev_Run G l (d + 1) bc bs mMo_back 0 [some (.ref (ad 1000)), some (.int x), some (.int k), none, none] [] h n P := by
  have h70 := hT.2.1
  have e0 := hT.1
  have loop : ∀ i t m, fnd ts x = some (i, t) → k = nI m → m < 2 ^ 31 → ∀ e j, j + e = ts.length → cnt (fun k => decide (0 < sl_of (t_ls t) k)) j ≤ m → ev_Run G l (d + 1) bc bs mMo_back 19 [some (.ref (ad 1000)), some (.int x), some (.int k), some (.int (nI (m - cnt (fun k => decide (0 < sl_of (t_ls t) k)) j))), some (.int (nI j))] [] h n P := by
    rintro i t m q rfl hm e
    rw [back_some q hI] at hk
    obtain ⟨rfl, e2, e3⟩ := fnd_some q
    have hi : i < ts.length := (List.getElem?_eq_some_iff.mp e2).1
    obtain ⟨-, k10, o⟩ := hT.2.2.1 i t e2
    have htl := sl_tot_lt o.2.2.2.2.2.2.2.2.1 k10
    induction e with
    | zero =>
      intro j hj hc
      have : j = ts.length := by omega
      subst this
      rw [pick_no (by omega) hm hc] at hk
      refine ev_iload dMo_back_19 rfl ?_
      refine ev_aload_n dMo_back_21 rfl rfl ?_
      refine ev_get dMo_back_22 fMo_90 hM.2.1.1 rfl ?_
      refine ev_icmp_ge (tgt := 56) dMo_back_25 (by decide) (fun c25 => ?_) (fun c25 => absurd ((show iv 0 ≤ nI ts.length by rw [e0]; exact Int32.le_refl _)) c25)
      refine ev_iconst (v := -1) dMo_back_56 (by decide) ?_
      refine ev_iret dMo_back_57 rfl rfl ?_
      exact hk
    | succ e ih =>
      intro j hj hc
      have hol := sl_of_le (t_ls t) j
      have hq := ih (j + 1) (by omega)
      have hs := cnt_succ (fun k => decide (0 < sl_of (t_ls t) k)) j
      refine ev_iload dMo_back_19 rfl ?_
      refine ev_aload_n dMo_back_21 rfl rfl ?_
      refine ev_get dMo_back_22 fMo_90 hM.2.1.1 rfl ?_
      refine ev_icmp_ge (tgt := 56) dMo_back_25 (by decide) (fun c25 => False.elim (absurd (show nI ts.length ≤ nI j by rw [← e0]; exact c25) (nI_ge (by omega) (by omega)))) (fun c25 => ?_)
      refine ev_aload_n dMo_back_28 rfl rfl ?_
      refine ev_iload_n dMo_back_29 rfl rfl ?_
      refine ev_iload dMo_back_30 rfl ?_
      refine cz_Mo_gramsFrom dMo_back_32 lMo_140 hM.2.1.1 (Nat.le_of_ble_eq_true rfl) (Mo_gramsFrom_ok hM hT e2 (by omega) ?_)
      refine ev_lconst (v := lN 0) dMo_back_35 (by decide) ?_
      refine ev_lcmp_le (tgt := 50) dMo_back_36 dMo_back_37 (by decide) (fun c36 => ?_) (fun c36 => ?_)
      · rw [pk_lLE (by omega) (by omega)] at c36
        rw [if_neg (by simp; omega)] at hs
        rw [hs, Nat.add_zero] at hq
        refine ev_iinc dMo_back_50 rfl (ev_inc1 _) (by decide) ?_
        refine ev_goto (tgt := 19) dMo_back_53 (by decide) ?_
        exact hq hc
      · rw [pk_lLE (by omega) (by omega)] at c36
        rw [if_pos (by simp; omega)] at hs
        rw [hs] at hq
        refine ev_iload_n dMo_back_40 rfl rfl ?_
        refine ev_if_ne (tgt := 47) dMo_back_41 (by decide) (fun c41 => ?_) (fun c41 => ?_)
        · have hne : ¬ m - cnt (fun k => decide (0 < sl_of (t_ls t) k)) j = 0 := fun z => c41 (by rw [z]; rfl)
          refine ev_iinc dMo_back_47 rfl (nI_dec (by omega)) (by decide) ?_
          refine ev_iinc dMo_back_50 rfl (ev_inc1 _) (by decide) ?_
          refine ev_goto (tgt := 19) dMo_back_53 (by decide) ?_
          rw [← Nat.sub_sub] at hq
          exact hq (by omega)
        · have hz : m - cnt (fun k => decide (0 < sl_of (t_ls t) k)) j = 0 := (nI_eq (by omega) (by decide)).mp c41
          refine ev_iload dMo_back_44 rfl ?_
          refine ev_iret dMo_back_46 rfl rfl ?_
          rw [show m = cnt (fun k => decide (0 < sl_of (t_ls t) k)) j by omega, pick_yes (by omega) (by omega) (by simp; omega)] at hk
          exact hk
  refine ev_aload_n dMo_back_0 rfl rfl ?_
  refine ev_iload_n dMo_back_1 rfl rfl ?_
  refine cz_Mo_isThing dMo_back_2 lMo_94 hM.2.1.1 (Nat.le_of_ble_eq_true rfl) (Mo_isThing_ok hM hT (fun i t q => ?_) (fun q => ?_))
  · refine ev_if_eq (tgt := 12) dMo_back_5 (by decide) (fun q9 => absurd q9 (by decide)) (fun _ => ?_)
    refine ev_iload_n dMo_back_8 rfl rfl ?_
    refine ev_if_ge (tgt := 14) dMo_back_9 (by decide) (fun c9 => ?_) (fun c9 => ?_)
    · obtain ⟨m, hm, rfl⟩ := nI_of (show ¬ k < 0 from iI_le_nlt c9)
      refine ev_iload_n dMo_back_14 rfl rfl ?_
      refine ev_istore_n dMo_back_15 rfl (by decide) ?_
      refine ev_iconst (v := nI 0) dMo_back_16 (by decide) ?_
      refine ev_istore dMo_back_17 (by decide) ?_
      exact loop i t m q rfl hm ts.length 0 (by omega) (Nat.zero_le _)
    · have hn : k < 0 := iI_nle c9
      refine ev_iconst (v := -1) dMo_back_12 (by decide) ?_
      refine ev_iret dMo_back_13 rfl rfl ?_
      rw [back_some q hI, pick_neg hn] at hk
      exact hk
  · refine ev_if_eq (tgt := 12) dMo_back_5 (by decide) (fun _ => ?_) (fun q9 => absurd (by decide) q9)
    refine ev_iconst (v := -1) dMo_back_12 (by decide) ?_
    refine ev_iret dMo_back_13 rfl rfl ?_
    rw [back_none q] at hk
    exact hk
set_option maxRecDepth 20000 in
set_option maxHeartbeats 1000000 in
theorem Mo_boxesOf_ok {c j : Nat} (hc : c < 2 ^ 31) (hj : j < 2 ^ 31) (hM : MoK h0 h ad tg T iv ia la) (hT : MoT iv ia la ts) (hk : P (some (.int (nI (bx_n ts c j)))) h n) : ev_Run G l (d + 1) bc bs mMo_boxesOf 0 [some (.ref (ad 1000)), some (.int (nI c)), some (.int (nI j)), none, none] [] h n P := by
  have h70 := hT.2.1
  have e0 := hT.1
  have loop : ∀ e i, i + e = ts.length → ev_Run G l (d + 1) bc bs mMo_boxesOf 5 [some (.ref (ad 1000)), some (.int (nI c)), some (.int (nI j)), some (.int (nI (bx_n (ts.take i) c j))), some (.int (nI i))] [] h n P := by
    intro e
    induction e with
    | zero =>
      intro i hi
      refine ev_iload dMo_boxesOf_5 rfl ?_
      refine ev_aload_n dMo_boxesOf_7 rfl rfl ?_
      refine ev_get dMo_boxesOf_8 fMo_90 hM.2.1.1 rfl ?_
      refine ev_icmp_ge (tgt := 62) dMo_boxesOf_11 (by decide) (fun c11 => ?_) (fun c11 => absurd ((show iv 0 ≤ nI i by rw [e0]; exact nI_le (by omega) (by omega))) c11)
      refine ev_iload_n dMo_boxesOf_62 rfl rfl ?_
      refine ev_iret dMo_boxesOf_63 rfl rfl ?_
      rw [List.take_of_length_le (by omega)]
      exact hk
    | succ e ih =>
      intro i hi
      obtain ⟨t, ht⟩ : ∃ t, ts[i]? = some t := ⟨_, List.getElem?_eq_getElem (by omega)⟩
      obtain ⟨⟨k1, k2, k3, k4, k5, k6, k7, -⟩, k10, o⟩ := hT.2.2.1 i t ht
      have o1 := o.1
      have o3 := o.2.2.1
      have htl := sl_tot_lt o.2.2.2.2.2.2.2.2.1 k10
      have hol := sl_of_le (t_ls t) j
      have hq := ih (i + 1) (by omega)
      rw [bx_take ht] at hq
      refine ev_iload dMo_boxesOf_5 rfl ?_
      refine ev_aload_n dMo_boxesOf_7 rfl rfl ?_
      refine ev_get dMo_boxesOf_8 fMo_90 hM.2.1.1 rfl ?_
      refine ev_icmp_ge (tgt := 62) dMo_boxesOf_11 (by decide) (fun c11 => False.elim (absurd (show nI ts.length ≤ nI i by rw [← e0]; exact c11) (nI_ge (by omega) (by omega)))) (fun c11 => ?_)
      refine ev_iload_n dMo_boxesOf_14 rfl rfl ?_
      refine ev_aload_n dMo_boxesOf_15 rfl rfl ?_
      refine ev_get dMo_boxesOf_16 fMo_7 hM.2.1.1 rfl ?_
      refine ev_iload dMo_boxesOf_19 rfl ?_
      refine ev_iald dMo_boxesOf_21 hM.2.1.g1 rfl rfl (by omega) (by decide) ?_
      refine ev_top (k1) ?_
      refine ev_iconst (v := nI 3) dMo_boxesOf_22 (by decide) ?_
      refine ev_icmp_ne (tgt := 53) dMo_boxesOf_23 (by decide) (fun c23 => ?_) (fun c23 => ?_)
      · rw [if_neg (bx_neg (fun z _ _ => c23 (by rw [z])))] at hq
        refine ev_iconst (v := nI 0) dMo_boxesOf_53 (by decide) ?_
        refine ev_iadd dMo_boxesOf_54 ?_
        refine ev_top (nI_add _ _) ?_
        refine ev_istore_n dMo_boxesOf_55 rfl (by decide) ?_
        refine ev_iinc dMo_boxesOf_56 rfl (ev_inc1 _) (by decide) ?_
        refine ev_goto (tgt := 5) dMo_boxesOf_59 (by decide) ?_
        exact hq
      · have hkd : t_kind t = 3 := (nI_eq (by omega) (by decide)).mp c23
        refine ev_aload_n dMo_boxesOf_26 rfl rfl ?_
        refine ev_get dMo_boxesOf_27 fMo_33 hM.2.1.1 rfl ?_
        refine ev_iload dMo_boxesOf_30 rfl ?_
        refine ev_iald dMo_boxesOf_32 hM.2.1.g8 rfl rfl (by omega) (by decide) ?_
        refine ev_top (k7) ?_
        refine ev_iload_n dMo_boxesOf_33 rfl rfl ?_
        refine ev_icmp_ne (tgt := 53) dMo_boxesOf_34 (by decide) (fun c34 => ?_) (fun c34 => ?_)
        · rw [if_neg (bx_neg (fun _ z _ => c34 (by rw [z])))] at hq
          refine ev_iconst (v := nI 0) dMo_boxesOf_53 (by decide) ?_
          refine ev_iadd dMo_boxesOf_54 ?_
          refine ev_top (nI_add _ _) ?_
          refine ev_istore_n dMo_boxesOf_55 rfl (by decide) ?_
          refine ev_iinc dMo_boxesOf_56 rfl (ev_inc1 _) (by decide) ?_
          refine ev_goto (tgt := 5) dMo_boxesOf_59 (by decide) ?_
          exact hq
        · have hmk : t_mark t = c := (nI_eq (by omega) hc).mp c34
          refine ev_aload_n dMo_boxesOf_37 rfl rfl ?_
          refine ev_iload dMo_boxesOf_38 rfl ?_
          refine ev_iload_n dMo_boxesOf_40 rfl rfl ?_
          refine cz_Mo_gramsFrom dMo_boxesOf_41 lMo_140 hM.2.1.1 (Nat.le_of_ble_eq_true rfl) (Mo_gramsFrom_ok hM hT ht hj ?_)
          refine ev_lconst (v := lN 0) dMo_boxesOf_44 (by decide) ?_
          refine ev_lcmp_le (tgt := 53) dMo_boxesOf_45 dMo_boxesOf_46 (by decide) (fun c45 => ?_) (fun c45 => ?_)
          · rw [pk_lLE (by omega) (by omega)] at c45
            rw [if_neg (bx_neg (fun _ _ z => by omega))] at hq
            refine ev_iconst (v := nI 0) dMo_boxesOf_53 (by decide) ?_
            refine ev_iadd dMo_boxesOf_54 ?_
            refine ev_top (nI_add _ _) ?_
            refine ev_istore_n dMo_boxesOf_55 rfl (by decide) ?_
            refine ev_iinc dMo_boxesOf_56 rfl (ev_inc1 _) (by decide) ?_
            refine ev_goto (tgt := 5) dMo_boxesOf_59 (by decide) ?_
            exact hq
          · rw [pk_lLE (by omega) (by omega)] at c45
            rw [if_pos (bx_pos hkd hmk (by omega))] at hq
            refine ev_iconst (v := nI 1) dMo_boxesOf_49 (by decide) ?_
            refine ev_goto (tgt := 54) dMo_boxesOf_50 (by decide) ?_
            refine ev_iadd dMo_boxesOf_54 ?_
            refine ev_top (nI_add _ _) ?_
            refine ev_istore_n dMo_boxesOf_55 rfl (by decide) ?_
            refine ev_iinc dMo_boxesOf_56 rfl (ev_inc1 _) (by decide) ?_
            refine ev_goto (tgt := 5) dMo_boxesOf_59 (by decide) ?_
            exact hq
  refine ev_iconst (v := nI 0) dMo_boxesOf_0 (by decide) ?_
  refine ev_istore_n dMo_boxesOf_1 rfl (by decide) ?_
  refine ev_iconst (v := nI 0) dMo_boxesOf_2 (by decide) ?_
  refine ev_istore dMo_boxesOf_3 (by decide) ?_
  exact loop ts.length 0 (by omega)
set_option maxRecDepth 20000 in
set_option maxHeartbeats 1000000 in
theorem Mo_recall_ok {x : Int32} (hM : MoK h0 h ad tg T iv ia la) (hT : MoT iv ia la ts) (hk : P (some (.int (recall_s ts x))) h n) : ev_Run G l (d + 2) bc bs mMo_recall 0 [some (.ref (ad 1000)), some (.int x), none, none] [] h n P := by
  have h70 := hT.2.1
  have loop : ∀ i t, fnd ts x = some (i, t) → t_kind t = 1 → ∀ e c, c + e = 100 → ev_Run G l (d + 2) bc bs mMo_recall 15 [some (.ref (ad 1000)), some (.int x), some (.int (nI (cnt (fun c => decide (1 ≤ bx_n ts c i)) c))), some (.int (nI c))] [] h n P := by
    intro i t q qk e
    rw [recall_yes q qk] at hk
    obtain ⟨rfl, e2, e3⟩ := fnd_some q
    induction e with
    | zero =>
      intro c hc
      have : c = 100 := by omega
      subst this
      refine ev_iload_n dMo_recall_15 rfl rfl ?_
      refine ev_bipush (v := nI 100) dMo_recall_16 (by decide) ?_
      refine ev_icmp_ge (tgt := 44) dMo_recall_18 (by decide) (fun c18 => ?_) (fun c18 => absurd (Int32.le_refl _) c18)
      refine ev_iload_n dMo_recall_44 rfl rfl ?_
      refine ev_iret dMo_recall_45 rfl rfl ?_
      exact hk
    | succ e ih =>
      intro c hc
      have hb := bx_le ts c i
      have hs := cnt_succ (fun c => decide (1 ≤ bx_n ts c i)) c
      have hq := ih (c + 1) (by omega)
      refine ev_iload_n dMo_recall_15 rfl rfl ?_
      refine ev_bipush (v := nI 100) dMo_recall_16 (by decide) ?_
      refine ev_icmp_ge (tgt := 44) dMo_recall_18 (by decide) (fun c18 => False.elim (absurd c18 (nI_ge (by omega) (by decide)))) (fun c18 => ?_)
      refine ev_iload_n dMo_recall_21 rfl rfl ?_
      refine ev_aload_n dMo_recall_22 rfl rfl ?_
      refine ev_iload_n dMo_recall_23 rfl rfl ?_
      refine ev_iload_n dMo_recall_24 rfl rfl ?_
      refine cz_Mo_boxesOf dMo_recall_25 lMo_144 hM.2.1.1 (Nat.le_of_ble_eq_true rfl) (Mo_boxesOf_ok (by omega) (by omega) hM hT ?_)
      refine ev_if_le (tgt := 35) dMo_recall_28 (by decide) (fun c28 => ?_) (fun c28 => ?_)
      · have hz : ¬ 1 ≤ bx_n ts c i := (fun z => absurd ((nI_leI (by omega) (by decide)).mp (show nI (bx_n ts c i) ≤ nI 0 from c28)) (by omega))
        rw [if_neg (by simp; omega)] at hs
        rw [hs] at hq
        refine ev_iconst (v := nI 0) dMo_recall_35 (by decide) ?_
        refine ev_iadd dMo_recall_36 ?_
        refine ev_top (nI_add _ _) ?_
        refine ev_istore_n dMo_recall_37 rfl (by decide) ?_
        refine ev_iinc dMo_recall_38 rfl (ev_inc1 _) (by decide) ?_
        refine ev_goto (tgt := 15) dMo_recall_41 (by decide) ?_
        exact hq
      · have hz : 1 ≤ bx_n ts c i := (by rcases Nat.eq_zero_or_pos (bx_n ts c i) with z | z; exact absurd (by rw [z]; decide) c28; exact z)
        rw [if_pos (by simp; omega)] at hs
        rw [hs] at hq
        refine ev_iconst (v := nI 1) dMo_recall_31 (by decide) ?_
        refine ev_goto (tgt := 36) dMo_recall_32 (by decide) ?_
        refine ev_iadd dMo_recall_36 ?_
        refine ev_top (nI_add _ _) ?_
        refine ev_istore_n dMo_recall_37 rfl (by decide) ?_
        refine ev_iinc dMo_recall_38 rfl (ev_inc1 _) (by decide) ?_
        refine ev_goto (tgt := 15) dMo_recall_41 (by decide) ?_
        exact hq
  refine ev_aload_n dMo_recall_0 rfl rfl ?_
  refine ev_iload_n dMo_recall_1 rfl rfl ?_
  refine ev_iconst (v := nI 1) dMo_recall_2 (by decide) ?_
  refine cz_Mo_isOf dMo_recall_3 lMo_116 hM.2.1.1 (Nat.le_of_ble_eq_true rfl) (Mo_isOf_ok (w := 1) (by decide) hM hT (fun i t q qk => ?_) (fun q => ?_))
  · refine ev_if_ne (tgt := 11) dMo_recall_6 (by decide) (fun _ => ?_) (fun q9 => absurd q9 (by decide))
    refine ev_iconst (v := nI 0) dMo_recall_11 (by decide) ?_
    refine ev_istore_n dMo_recall_12 rfl (by decide) ?_
    refine ev_iconst (v := nI 0) dMo_recall_13 (by decide) ?_
    refine ev_istore_n dMo_recall_14 rfl (by decide) ?_
    exact loop i t q qk 100 0 (by omega)
  · refine ev_if_ne (tgt := 11) dMo_recall_6 (by decide) (fun q9 => absurd (by decide) q9) (fun _ => ?_)
    refine ev_iconst (v := -1) dMo_recall_9 (by decide) ?_
    refine ev_iret dMo_recall_10 rfl rfl ?_
    rw [recall_no q] at hk
    exact hk
set_option maxRecDepth 20000 in
set_option maxHeartbeats 1000000 in
theorem Mo_recalled_ok {x k : Int32} (hM : MoK h0 h ad tg T iv ia la) (hT : MoT iv ia la ts) (hk : P (some (.int (recalled_s ts x k))) h n) : ev_Run G l (d + 2) bc bs mMo_recalled 0 [some (.ref (ad 1000)), some (.int x), some (.int k), none, none] [] h n P := by
  have h70 := hT.2.1
  have loop : ∀ i t m, fnd ts x = some (i, t) → t_kind t = 1 → k = nI m → m < 2 ^ 31 → ∀ e c, c + e = 100 → cnt (fun c => decide (0 < bx_n ts c i)) c ≤ m → ev_Run G l (d + 2) bc bs mMo_recalled 20 [some (.ref (ad 1000)), some (.int x), some (.int k), some (.int (nI (m - cnt (fun c => decide (0 < bx_n ts c i)) c))), some (.int (nI c))] [] h n P := by
    rintro i t m q qk rfl hm e
    rw [recalled_yes q qk] at hk
    obtain ⟨rfl, e2, e3⟩ := fnd_some q
    induction e with
    | zero =>
      intro c hc hcm
      have : c = 100 := by omega
      subst this
      rw [pick_no (by omega) hm hcm] at hk
      refine ev_iload dMo_recalled_20 rfl ?_
      refine ev_bipush (v := nI 100) dMo_recalled_22 (by decide) ?_
      refine ev_icmp_ge (tgt := 53) dMo_recalled_24 (by decide) (fun c24 => ?_) (fun c24 => absurd (Int32.le_refl _) c24)
      refine ev_iconst (v := -1) dMo_recalled_53 (by decide) ?_
      refine ev_iret dMo_recalled_54 rfl rfl ?_
      exact hk
    | succ e ih =>
      intro c hc hcm
      have hb := bx_le ts c i
      have hs := cnt_succ (fun c => decide (0 < bx_n ts c i)) c
      have hq := ih (c + 1) (by omega)
      refine ev_iload dMo_recalled_20 rfl ?_
      refine ev_bipush (v := nI 100) dMo_recalled_22 (by decide) ?_
      refine ev_icmp_ge (tgt := 53) dMo_recalled_24 (by decide) (fun c24 => False.elim (absurd c24 (nI_ge (by omega) (by decide)))) (fun c24 => ?_)
      refine ev_aload_n dMo_recalled_27 rfl rfl ?_
      refine ev_iload dMo_recalled_28 rfl ?_
      refine ev_iload_n dMo_recalled_30 rfl rfl ?_
      refine cz_Mo_boxesOf dMo_recalled_31 lMo_144 hM.2.1.1 (Nat.le_of_ble_eq_true rfl) (Mo_boxesOf_ok (by omega) (by omega) hM hT ?_)
      refine ev_if_le (tgt := 47) dMo_recalled_34 (by decide) (fun c34 => ?_) (fun c34 => ?_)
      · have hz : ¬ 0 < bx_n ts c i := (fun z => absurd ((nI_leI (by omega) (by decide)).mp (show nI (bx_n ts c i) ≤ nI 0 from c34)) (by omega))
        rw [if_neg (by simp; omega)] at hs
        rw [hs, Nat.add_zero] at hq
        refine ev_iinc dMo_recalled_47 rfl (ev_inc1 _) (by decide) ?_
        refine ev_goto (tgt := 20) dMo_recalled_50 (by decide) ?_
        exact hq hcm
      · have hz : 0 < bx_n ts c i := (by rcases Nat.eq_zero_or_pos (bx_n ts c i) with z | z; exact absurd (by rw [z]; decide) c34; exact z)
        rw [if_pos (by simp; omega)] at hs
        rw [hs] at hq
        refine ev_iload_n dMo_recalled_37 rfl rfl ?_
        refine ev_if_ne (tgt := 44) dMo_recalled_38 (by decide) (fun c38 => ?_) (fun c38 => ?_)
        · have hne : ¬ m - cnt (fun c => decide (0 < bx_n ts c i)) c = 0 := fun z => c38 (by rw [z]; rfl)
          refine ev_iinc dMo_recalled_44 rfl (nI_dec (by omega)) (by decide) ?_
          refine ev_iinc dMo_recalled_47 rfl (ev_inc1 _) (by decide) ?_
          refine ev_goto (tgt := 20) dMo_recalled_50 (by decide) ?_
          rw [← Nat.sub_sub] at hq
          exact hq (by omega)
        · have hz2 : m - cnt (fun c => decide (0 < bx_n ts c i)) c = 0 := (nI_eq (by omega) (by decide)).mp c38
          refine ev_iload dMo_recalled_41 rfl ?_
          refine ev_iret dMo_recalled_43 rfl rfl ?_
          rw [show m = cnt (fun c => decide (0 < bx_n ts c i)) c by omega, pick_yes (by omega) (by omega) (by simp; omega)] at hk
          exact hk
  refine ev_aload_n dMo_recalled_0 rfl rfl ?_
  refine ev_iload_n dMo_recalled_1 rfl rfl ?_
  refine ev_iconst (v := nI 1) dMo_recalled_2 (by decide) ?_
  refine cz_Mo_isOf dMo_recalled_3 lMo_116 hM.2.1.1 (Nat.le_of_ble_eq_true rfl) (Mo_isOf_ok (w := 1) (by decide) hM hT (fun i t q qk => ?_) (fun q => ?_))
  · refine ev_if_eq (tgt := 13) dMo_recalled_6 (by decide) (fun q9 => absurd q9 (by decide)) (fun _ => ?_)
    refine ev_iload_n dMo_recalled_9 rfl rfl ?_
    refine ev_if_ge (tgt := 15) dMo_recalled_10 (by decide) (fun c10 => ?_) (fun c10 => ?_)
    · obtain ⟨m, hm, rfl⟩ := nI_of (show ¬ k < 0 from iI_le_nlt c10)
      refine ev_iload_n dMo_recalled_15 rfl rfl ?_
      refine ev_istore_n dMo_recalled_16 rfl (by decide) ?_
      refine ev_iconst (v := nI 0) dMo_recalled_17 (by decide) ?_
      refine ev_istore dMo_recalled_18 (by decide) ?_
      exact loop i t m q qk rfl hm 100 0 (by omega) (Nat.zero_le _)
    · have hn : k < 0 := iI_nle c10
      refine ev_iconst (v := -1) dMo_recalled_13 (by decide) ?_
      refine ev_iret dMo_recalled_14 rfl rfl ?_
      rw [recalled_yes q qk, pick_neg hn] at hk
      exact hk
  · refine ev_if_eq (tgt := 13) dMo_recalled_6 (by decide) (fun _ => ?_) (fun q9 => absurd (by decide) q9)
    refine ev_iconst (v := -1) dMo_recalled_13 (by decide) ?_
    refine ev_iret dMo_recalled_14 rfl rfl ?_
    rw [recalled_no q] at hk
    exact hk
set_option maxRecDepth 20000 in
set_option maxHeartbeats 1000000 in
theorem Mo_doubled_ok {k : Int32} (hM : MoK h0 h ad tg T iv ia la) (hT : MoT iv ia la ts) (hk : P (some (.int (doubled_s ts k))) h n) : ev_Run G l (d + 2) bc bs mMo_doubled 0 [some (.ref (ad 1000)), some (.int k), none, none, none, none] [] h n P := by
  have h70 := hT.2.1
  have e0 := hT.1
  rw [doubled_eq h70] at hk
  by_cases hk0 : k < 0
  · rw [pick_neg hk0] at hk
    refine ev_iload_n dMo_doubled_0 rfl rfl ?_
    refine ev_istore_n dMo_doubled_1 rfl (by decide) ?_
    refine ev_iconst (v := nI 0) dMo_doubled_2 (by decide) ?_
    refine ev_istore_n dMo_doubled_3 rfl (by decide) ?_
    refine ev_iload_n dMo_doubled_4 rfl rfl ?_
    refine ev_aload_n dMo_doubled_5 rfl rfl ?_
    refine ev_get dMo_doubled_6 fMo_90 hM.2.1.1 rfl ?_
    refine ev_icmp_ge (tgt := 88) dMo_doubled_9 (by decide) (fun c9 => ?_) (fun c9 => ?_)
    · refine ev_iconst (v := -1) dMo_doubled_88 (by decide) ?_
      refine ev_iret dMo_doubled_89 rfl rfl ?_
      exact hk
    · refine ev_iload_n dMo_doubled_12 rfl rfl ?_
      refine ev_if_lt (tgt := 88) dMo_doubled_13 (by decide) (fun c13 => ?_) (fun c13 => absurd (hk0) c13)
      refine ev_iconst (v := -1) dMo_doubled_88 (by decide) ?_
      refine ev_iret dMo_doubled_89 rfl rfl ?_
      exact hk
  · obtain ⟨m, hm, rfl⟩ := nI_of hk0
    have loop : ∀ e j w4 w5, j + e = ts.length → cnt (dbl ts) j ≤ m → ev_Run G l (d + 2) bc bs mMo_doubled 4 [some (.ref (ad 1000)), some (.int (nI m)), some (.int (nI (m - cnt (dbl ts) j))), some (.int (nI j)), w4, w5] [] h n P := by
      intro e
      induction e with
      | zero =>
        intro j w4 w5 hj hc
        have : j = ts.length := by omega
        subst this
        rw [pick_no (by omega) hm hc] at hk
        refine ev_iload_n dMo_doubled_4 rfl rfl ?_
        refine ev_aload_n dMo_doubled_5 rfl rfl ?_
        refine ev_get dMo_doubled_6 fMo_90 hM.2.1.1 rfl ?_
        refine ev_icmp_ge (tgt := 88) dMo_doubled_9 (by decide) (fun c9 => ?_) (fun c9 => absurd ((show iv 0 ≤ nI ts.length by rw [e0]; exact Int32.le_refl _)) c9)
        refine ev_iconst (v := -1) dMo_doubled_88 (by decide) ?_
        refine ev_iret dMo_doubled_89 rfl rfl ?_
        exact hk
      | succ e ih =>
        intro j w4 w5 hj hc
        obtain ⟨t, ht⟩ : ∃ t, ts[j]? = some t := ⟨_, List.getElem?_eq_getElem (by omega)⟩
        obtain ⟨⟨k1, -⟩, k10, o⟩ := hT.2.2.1 j t ht
        have o1 := o.1
        have hs := cnt_succ (dbl ts) j
        have aft0 : ∀ w, dbl ts j = false → ev_Run G l (d + 2) bc bs mMo_doubled 68 [some (.ref (ad 1000)), some (.int (nI m)), some (.int (nI (m - cnt (dbl ts) j))), some (.int (nI j)), some (.int (nI 0)), w] [] h n P := by
          intro w hd
          have hs1 : cnt (dbl ts) (j + 1) = cnt (dbl ts) j := by rw [hs, hd]; rfl
          refine ev_iload dMo_doubled_68 rfl ?_
          refine ev_if_eq (tgt := 82) dMo_doubled_70 (by decide) (fun c70 => ?_) (fun c70 => absurd (rfl) c70)
          refine ev_iinc dMo_doubled_82 rfl (ev_inc1 _) (by decide) ?_
          refine ev_goto (tgt := 4) dMo_doubled_85 (by decide) ?_
          have hq := ih (j + 1) (some (.int (nI 0))) w (by omega) (by omega)
          rw [hs1] at hq
          exact hq
        have aft1 : ∀ w, dbl ts j = true → ev_Run G l (d + 2) bc bs mMo_doubled 68 [some (.ref (ad 1000)), some (.int (nI m)), some (.int (nI (m - cnt (dbl ts) j))), some (.int (nI j)), some (.int (nI 1)), w] [] h n P := by
          intro w hd
          have hs1 : cnt (dbl ts) (j + 1) = cnt (dbl ts) j + 1 := by rw [hs, hd]; rfl
          refine ev_iload dMo_doubled_68 rfl ?_
          refine ev_if_eq (tgt := 82) dMo_doubled_70 (by decide) (fun c70 => False.elim (absurd c70 (by decide))) (fun c70 => ?_)
          refine ev_iload_n dMo_doubled_73 rfl rfl ?_
          refine ev_if_ne (tgt := 79) dMo_doubled_74 (by decide) (fun c74 => ?_) (fun c74 => ?_)
          · have hne : ¬ m - cnt (dbl ts) j = 0 := fun z => c74 (by rw [z]; rfl)
            refine ev_iinc dMo_doubled_79 rfl (nI_dec (by omega)) (by decide) ?_
            refine ev_iinc dMo_doubled_82 rfl (ev_inc1 _) (by decide) ?_
            refine ev_goto (tgt := 4) dMo_doubled_85 (by decide) ?_
            have hq := ih (j + 1) (some (.int (nI 1))) w (by omega) (by omega)
            rw [hs1, ← Nat.sub_sub] at hq
            exact hq
          · have hz2 : m - cnt (dbl ts) j = 0 := (nI_eq (by omega) (by decide)).mp c74
            refine ev_iload_n dMo_doubled_77 rfl rfl ?_
            refine ev_iret dMo_doubled_78 rfl rfl ?_
            rw [show m = cnt (dbl ts) j by omega, pick_yes (by omega) (by omega) hd] at hk
            exact hk
        have exit1 : ∀ c, c ≤ 100 → t_kind t = 1 → dbl ts j = true → ev_Run G l (d + 2) bc bs mMo_doubled 22 [some (.ref (ad 1000)), some (.int (nI m)), some (.int (nI (m - cnt (dbl ts) j))), some (.int (nI j)), some (.int (nI 1)), some (.int (nI c))] [] h n P := by
          intro c hc hkd hd
          refine ev_iload dMo_doubled_22 rfl ?_
          refine ev_bipush (v := nI 100) dMo_doubled_24 (by decide) ?_
          refine ev_icmp_ge (tgt := 68) dMo_doubled_26 (by decide) (fun c26 => ?_) (fun c26 => ?_)
          · exact aft1 _ hd
          · refine ev_aload_n dMo_doubled_29 rfl rfl ?_
            refine ev_get dMo_doubled_30 fMo_7 hM.2.1.1 rfl ?_
            refine ev_iload_n dMo_doubled_33 rfl rfl ?_
            refine ev_iald dMo_doubled_34 hM.2.1.g1 rfl rfl (by omega) (by decide) ?_
            refine ev_top (k1) ?_
            refine ev_iconst (v := nI 1) dMo_doubled_35 (by decide) ?_
            refine ev_icmp_ne (tgt := 68) dMo_doubled_36 (by decide) (fun c36 => ?_) (fun c36 => ?_)
            · exact absurd (by rw [hkd]) c36
              
            · skip
              refine ev_iload dMo_doubled_39 rfl ?_
              refine ev_if_ne (tgt := 68) dMo_doubled_41 (by decide) (fun c41 => ?_) (fun c41 => ?_)
              · skip
                exact aft1 _ hd
              · exact absurd c41 (by decide)
                
        have inner : ∀ e' c, c + e' = 100 → (t_kind t = 1 → ∀ c', c' < c → ¬ 2 ≤ bx_n ts c' j) → ev_Run G l (d + 2) bc bs mMo_doubled 22 [some (.ref (ad 1000)), some (.int (nI m)), some (.int (nI (m - cnt (dbl ts) j))), some (.int (nI j)), some (.int (nI 0)), some (.int (nI c))] [] h n P := by
          intro e'
          induction e' with
          | zero =>
            intro c hc hn
            have : c = 100 := by omega
            subst this
            refine ev_iload dMo_doubled_22 rfl ?_
            refine ev_bipush (v := nI 100) dMo_doubled_24 (by decide) ?_
            refine ev_icmp_ge (tgt := 68) dMo_doubled_26 (by decide) (fun c26 => ?_) (fun c26 => absurd (Int32.le_refl _) c26)
            exact aft0 _ (dbl_no ht hn)
          | succ e' ih2 =>
            intro c hc hn
            have hb := bx_le ts c j
            refine ev_iload dMo_doubled_22 rfl ?_
            refine ev_bipush (v := nI 100) dMo_doubled_24 (by decide) ?_
            refine ev_icmp_ge (tgt := 68) dMo_doubled_26 (by decide) (fun c26 => False.elim (absurd c26 (nI_ge (by omega) (by decide)))) (fun c26 => ?_)
            refine ev_aload_n dMo_doubled_29 rfl rfl ?_
            refine ev_get dMo_doubled_30 fMo_7 hM.2.1.1 rfl ?_
            refine ev_iload_n dMo_doubled_33 rfl rfl ?_
            refine ev_iald dMo_doubled_34 hM.2.1.g1 rfl rfl (by omega) (by decide) ?_
            refine ev_top (k1) ?_
            refine ev_iconst (v := nI 1) dMo_doubled_35 (by decide) ?_
            refine ev_icmp_ne (tgt := 68) dMo_doubled_36 (by decide) (fun c36 => ?_) (fun c36 => ?_)
            · skip
              exact aft0 _ (dbl_no ht (fun z => absurd (by rw [z]) c36))
            · have hkd : t_kind t = 1 := (nI_eq (by omega) (by decide)).mp c36
              refine ev_iload dMo_doubled_39 rfl ?_
              refine ev_if_ne (tgt := 68) dMo_doubled_41 (by decide) (fun c41 => ?_) (fun c41 => ?_)
              · exact absurd rfl c41
                
              · skip
                refine ev_aload_n dMo_doubled_44 rfl rfl ?_
                refine ev_iload dMo_doubled_45 rfl ?_
                refine ev_iload_n dMo_doubled_47 rfl rfl ?_
                refine cz_Mo_boxesOf dMo_doubled_48 lMo_144 hM.2.1.1 (Nat.le_of_ble_eq_true rfl) (Mo_boxesOf_ok (by omega) (by omega) hM hT ?_)
                refine ev_iconst (v := nI 1) dMo_doubled_51 (by decide) ?_
                refine ev_icmp_le (tgt := 59) dMo_doubled_52 (by decide) (fun c52 => ?_) (fun c52 => ?_)
                · rw [nI_leI (by omega) (by decide)] at c52
                  refine ev_iconst (v := nI 0) dMo_doubled_59 (by decide) ?_
                  refine ev_istore dMo_doubled_60 (by decide) ?_
                  refine ev_iinc dMo_doubled_62 rfl (ev_inc1 _) (by decide) ?_
                  refine ev_goto (tgt := 22) dMo_doubled_65 (by decide) ?_
                  exact ih2 (c + 1) (by omega) (fun z c' hc' => by rcases Nat.lt_or_ge c' c with q | q; exact hn z c' q; (have : c' = c := (by omega); subst this; omega))
                · rw [nI_leI (by omega) (by decide)] at c52
                  refine ev_iconst (v := nI 1) dMo_doubled_55 (by decide) ?_
                  refine ev_goto (tgt := 60) dMo_doubled_56 (by decide) ?_
                  refine ev_istore dMo_doubled_60 (by decide) ?_
                  refine ev_iinc dMo_doubled_62 rfl (ev_inc1 _) (by decide) ?_
                  refine ev_goto (tgt := 22) dMo_doubled_65 (by decide) ?_
                  exact exit1 (c + 1) (by omega) hkd (dbl_yes ht hkd (by omega) (show 2 ≤ bx_n ts c j by omega))
        refine ev_iload_n dMo_doubled_4 rfl rfl ?_
        refine ev_aload_n dMo_doubled_5 rfl rfl ?_
        refine ev_get dMo_doubled_6 fMo_90 hM.2.1.1 rfl ?_
        refine ev_icmp_ge (tgt := 88) dMo_doubled_9 (by decide) (fun c9 => False.elim (absurd (show nI ts.length ≤ nI j by rw [← e0]; exact c9) (nI_ge (by omega) (by omega)))) (fun c9 => ?_)
        refine ev_iload_n dMo_doubled_12 rfl rfl ?_
        refine ev_if_lt (tgt := 88) dMo_doubled_13 (by decide) (fun c13 => False.elim (hk0 c13)) (fun c13 => ?_)
        refine ev_iconst (v := nI 0) dMo_doubled_16 (by decide) ?_
        refine ev_istore dMo_doubled_17 (by decide) ?_
        refine ev_iconst (v := nI 0) dMo_doubled_19 (by decide) ?_
        refine ev_istore dMo_doubled_20 (by decide) ?_
        exact inner 100 0 (by omega) (fun _ c' hc' => absurd hc' (by omega))
    refine ev_iload_n dMo_doubled_0 rfl rfl ?_
    refine ev_istore_n dMo_doubled_1 rfl (by decide) ?_
    refine ev_iconst (v := nI 0) dMo_doubled_2 (by decide) ?_
    refine ev_istore_n dMo_doubled_3 rfl (by decide) ?_
    exact loop ts.length 0 _ _ (by omega) (Nat.zero_le _)
end MOR
