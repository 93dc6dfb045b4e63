/-! the reference: claim -/
section MO6
variable {G : xG} {l : Launch} {d bc bs : Nat} {h h0 : xH} {n : Nat} {P : Option Value → xH → Nat → Prop} {ad tg : Nat → Nat} {T : Nat} {iv : Nat → Int32} {ia : Nat → Nat → Int32} {la : Nat → Nat → Int64} {cs : List Int32} {as : List sA}
set_option maxRecDepth 20000 in
set_option maxHeartbeats 2000000 in
theorem Mo_claim_ok {c y : Int32} {g : Int64} (hM : MoK h0 h ad tg T iv ia la) (hT : MoG iv ia la cs as) (hk : ∀ h' iv' ia' la', MoK h0 h' ad tg T iv' ia' la' → MoG iv' ia' la' cs (claim_s cs as c g y).2 → mo_gr iv iv' ia ia' la la' → P (some (.int (claim_s cs as c g y).1)) h' n) : ev_Run G l (d + 1) bc bs mMo_claim 0 [some (.ref (ad 1000)), some (.int c), some (.long g), none, some (.int y), none, none] [] h n P := by
  obtain ⟨g1, g2, g3, g4, g5, g6⟩ := id hT
  have loop : may_c cs as c g y → ¬ cs.getD c.toNatClampNeg 0 < y → ∀ e k w, k + e = as.length → (w = nI 1 ∧ g ≤ bal as c y ∧ (∀ k' a, k' < k → as[k']? = some a → y ≤ a.2.2 → g ≤ bal as c a.2.2) ∨ w = nI 0 ∧ ¬ rcov as c g y) → ev_Run G l (d + 1) bc bs mMo_claim 48 [some (.ref (ad 1000)), some (.int c), some (.long g), none, some (.int y), some (.int w), some (.int (nI k))] [] h n P := by
    intro q1 q2 e
    rw [claim_s, if_pos q1, if_neg q2] at hk
    induction e with
    | zero =>
      intro k w hke hw
      rcases hw with ⟨rfl, w1, w2⟩ | ⟨rfl, w1⟩
      · have hc : cov as c g y := rcov_iff.mp ⟨w1, fun a ha hy => by
          obtain ⟨k', hk'⟩ := List.getElem?_of_mem ha
          exact w2 k' a (by have := (List.getElem?_eq_some_iff.mp hk').1; omega) hk' hy⟩
        rw [if_pos hc] at hk
        refine ev_iload dMo_claim_48 rfl ?_
        refine ev_aload_n dMo_claim_50 rfl rfl ?_
        refine ev_get dMo_claim_51 fMo_181 hM.2.1.1 rfl ?_
        refine ev_icmp_ge (tgt := 104) dMo_claim_54 (by decide) (fun c54 => ?_) (fun c54 => absurd ((by rw [g4]; exact nI_le (by omega) (by omega))) c54)
        refine ev_iload dMo_claim_104 rfl ?_
        refine ev_if_ne (tgt := 111) dMo_claim_106 (by decide) (fun c106 => ?_) (fun c106 => ?_)
        · skip
          refine ev_aload_n dMo_claim_111 rfl rfl ?_
          refine ev_iload_n dMo_claim_112 rfl rfl ?_
          refine ev_lload_n dMo_claim_113 rfl rfl ?_
          refine ev_lneg dMo_claim_114 ?_
          refine ev_iload dMo_claim_115 rfl ?_
          refine cz_Mo_act dMo_claim_117 lMo_188 hM.2.1.1 (Nat.le_of_ble_eq_true rfl) (Mo_act_ok hM hT q1.2.2.2 (fun h1 iv1 ia1 la1 m1 t1 r1 => ?_))
          refine ev_iconst (v := nI 0) dMo_claim_120 (by decide) ?_
          refine ev_iret dMo_claim_121 rfl rfl ?_
          exact hk _ _ _ _ m1 t1 r1
        · exact absurd c106 (by decide)
          
      · rw [if_neg (fun z => w1 (rcov_iff.mpr z))] at hk
        refine ev_iload dMo_claim_48 rfl ?_
        refine ev_aload_n dMo_claim_50 rfl rfl ?_
        refine ev_get dMo_claim_51 fMo_181 hM.2.1.1 rfl ?_
        refine ev_icmp_ge (tgt := 104) dMo_claim_54 (by decide) (fun c54 => ?_) (fun c54 => absurd ((by rw [g4]; exact nI_le (by omega) (by omega))) c54)
        refine ev_iload dMo_claim_104 rfl ?_
        refine ev_if_ne (tgt := 111) dMo_claim_106 (by decide) (fun c106 => False.elim (absurd rfl c106)) (fun c106 => ?_)
        refine ev_iconst (v := nI 2) dMo_claim_109 (by decide) ?_
        refine ev_iret dMo_claim_110 rfl rfl ?_
        exact hk _ _ _ _ hM hT mo_gr.rf
    | succ e ih =>
      intro k w hke hw
      obtain ⟨a, ha⟩ : ∃ a, as[k]? = some a := ⟨_, List.getElem?_eq_getElem (by omega)⟩
      obtain ⟨x1, x2, x3⟩ := g6 k a ha
      rcases hw with ⟨rfl, w1, w2⟩ | ⟨rfl, w1⟩
      · have hi := fun (hz : y ≤ a.2.2 → g ≤ bal as c a.2.2) => ih (k + 1) (nI 1) (by omega) (Or.inl ⟨rfl, w1, fun k' b hk' hb => by
          rcases Nat.lt_or_ge k' k with z | z
          · exact w2 k' b z hb
          · have : k' = k := by omega
            subst this
            rw [ha] at hb
            cases hb
            exact hz⟩)
        refine ev_iload dMo_claim_48 rfl ?_
        refine ev_aload_n dMo_claim_50 rfl rfl ?_
        refine ev_get dMo_claim_51 fMo_181 hM.2.1.1 rfl ?_
        refine ev_icmp_ge (tgt := 104) dMo_claim_54 (by decide) (fun c54 => False.elim (absurd c54 (by rw [g4]; exact nI_ge (by omega) (by omega)))) (fun c54 => ?_)
        refine ev_iload dMo_claim_57 rfl ?_
        refine ev_if_eq (tgt := 95) dMo_claim_59 (by decide) (fun c59 => False.elim (absurd c59 (by decide))) (fun c59 => ?_)
        refine ev_aload_n dMo_claim_62 rfl rfl ?_
        refine ev_get dMo_claim_63 fMo_81 hM.2.1.1 rfl ?_
        refine ev_iload dMo_claim_66 rfl ?_
        refine ev_iald dMo_claim_68 hM.2.1.g24 rfl rfl (by omega) (by decide) ?_
        refine ev_top (x2) ?_
        refine ev_iload dMo_claim_69 rfl ?_
        refine ev_icmp_lt (tgt := 91) dMo_claim_71 (by decide) (fun c71 => ?_) (fun c71 => ?_)
        · refine ev_iconst (v := nI 1) dMo_claim_91 (by decide) ?_
          refine ev_goto (tgt := 96) dMo_claim_92 (by decide) ?_
          refine ev_istore dMo_claim_96 (by decide) ?_
          refine ev_iinc dMo_claim_98 rfl (ev_inc1 _) (by decide) ?_
          refine ev_goto (tgt := 48) dMo_claim_101 (by decide) ?_
          exact hi (fun z => absurd c71 (iI_le_nlt z))
        · refine ev_aload_n dMo_claim_74 rfl rfl ?_
          refine ev_iload_n dMo_claim_75 rfl rfl ?_
          refine ev_aload_n dMo_claim_76 rfl rfl ?_
          refine ev_get dMo_claim_77 fMo_81 hM.2.1.1 rfl ?_
          refine ev_iload dMo_claim_80 rfl ?_
          refine ev_iald dMo_claim_82 hM.2.1.g24 rfl rfl (by omega) (by decide) ?_
          refine ev_top (x2) ?_
          refine cz_Mo_balanceOf dMo_claim_83 lMo_192 hM.2.1.1 (Nat.le_of_ble_eq_true rfl) (Mo_balanceOf_ok hM hT ?_)
          refine ev_lload_n dMo_claim_86 rfl rfl ?_
          refine ev_lcmp_lt (tgt := 95) dMo_claim_87 dMo_claim_88 (by decide) (fun c87 => ?_) (fun c87 => ?_)
          · refine ev_iconst (v := nI 0) dMo_claim_95 (by decide) ?_
            refine ev_istore dMo_claim_96 (by decide) ?_
            refine ev_iinc dMo_claim_98 rfl (ev_inc1 _) (by decide) ?_
            refine ev_goto (tgt := 48) dMo_claim_101 (by decide) ?_
            exact ih (k + 1) (nI 0) (by omega) (Or.inr ⟨rfl, fun z => lI_le_nlt (z.2 a (List.mem_of_getElem? ha) (iI_nlt c71)) c87⟩)
          · refine ev_iconst (v := nI 1) dMo_claim_91 (by decide) ?_
            refine ev_goto (tgt := 96) dMo_claim_92 (by decide) ?_
            refine ev_istore dMo_claim_96 (by decide) ?_
            refine ev_iinc dMo_claim_98 rfl (ev_inc1 _) (by decide) ?_
            refine ev_goto (tgt := 48) dMo_claim_101 (by decide) ?_
            exact hi (fun _ => lI_nlt c87)
      · refine ev_iload dMo_claim_48 rfl ?_
        refine ev_aload_n dMo_claim_50 rfl rfl ?_
        refine ev_get dMo_claim_51 fMo_181 hM.2.1.1 rfl ?_
        refine ev_icmp_ge (tgt := 104) dMo_claim_54 (by decide) (fun c54 => False.elim (absurd c54 (by rw [g4]; exact nI_ge (by omega) (by omega)))) (fun c54 => ?_)
        refine ev_iload dMo_claim_57 rfl ?_
        refine ev_if_eq (tgt := 95) dMo_claim_59 (by decide) (fun c59 => ?_) (fun c59 => absurd (rfl) c59)
        refine ev_iconst (v := nI 0) dMo_claim_95 (by decide) ?_
        refine ev_istore dMo_claim_96 (by decide) ?_
        refine ev_iinc dMo_claim_98 rfl (ev_inc1 _) (by decide) ?_
        refine ev_goto (tgt := 48) dMo_claim_101 (by decide) ?_
        exact ih (k + 1) (nI 0) (by omega) (Or.inr ⟨rfl, w1⟩)
  refine ev_aload_n dMo_claim_0 rfl rfl ?_
  refine ev_iload_n dMo_claim_1 rfl rfl ?_
  refine ev_lload_n dMo_claim_2 rfl rfl ?_
  refine ev_iload dMo_claim_3 rfl ?_
  refine cz_Mo_mayAct dMo_claim_5 lMo_184 hM.2.1.1 (Nat.le_of_ble_eq_true rfl) (Mo_mayAct_ok hM hT (fun q => ?_) (fun q => ?_))
  · obtain ⟨i, hi, hci⟩ := ix_in (x := c) (n := cs.length) (by omega) q.1.1 (iI_lt_nle q.1.2)
    have hu : cs[i]? = some (cs.getD c.toNatClampNeg 0) := (by rw [hci, nI_clamp (by omega)]; simp [hi])
    refine ev_if_ne (tgt := 13) dMo_claim_8 (by decide) (fun _ => ?_) (fun q9 => absurd q9 (by decide))
    refine ev_iload dMo_claim_13 rfl ?_
    refine ev_aload_n dMo_claim_15 rfl rfl ?_
    refine ev_get dMo_claim_16 fMo_75 hM.2.1.1 rfl ?_
    refine ev_iload_n dMo_claim_19 rfl rfl ?_
    refine ev_iald dMo_claim_20 hM.2.1.g22 rfl (hci) (by omega) (by decide) ?_
    refine ev_top (g3 i _ hu) ?_
    refine ev_icmp_le (tgt := 26) dMo_claim_21 (by decide) (fun c21 => ?_) (fun c21 => ?_)
    · refine ev_aload_n dMo_claim_26 rfl rfl ?_
      refine ev_iload_n dMo_claim_27 rfl rfl ?_
      refine ev_iload dMo_claim_28 rfl ?_
      refine cz_Mo_balanceOf dMo_claim_30 lMo_192 hM.2.1.1 (Nat.le_of_ble_eq_true rfl) (Mo_balanceOf_ok hM hT ?_)
      refine ev_lload_n dMo_claim_33 rfl rfl ?_
      refine ev_lcmp_lt (tgt := 42) dMo_claim_34 dMo_claim_35 (by decide) (fun c34 => ?_) (fun c34 => ?_)
      · refine ev_iconst (v := nI 0) dMo_claim_42 (by decide) ?_
        refine ev_istore dMo_claim_43 (by decide) ?_
        refine ev_iconst (v := nI 0) dMo_claim_45 (by decide) ?_
        refine ev_istore dMo_claim_46 (by decide) ?_
        exact loop q (iI_le_nlt c21) as.length 0 _ (by omega) (Or.inr ⟨rfl, fun z => lI_le_nlt z.1 c34⟩)
      · refine ev_iconst (v := nI 1) dMo_claim_38 (by decide) ?_
        refine ev_goto (tgt := 43) dMo_claim_39 (by decide) ?_
        refine ev_istore dMo_claim_43 (by decide) ?_
        refine ev_iconst (v := nI 0) dMo_claim_45 (by decide) ?_
        refine ev_istore dMo_claim_46 (by decide) ?_
        exact loop q (iI_le_nlt c21) as.length 0 _ (by omega) (Or.inl ⟨rfl, lI_nlt c34, fun k' a hk' => absurd hk' (by omega)⟩)
    · refine ev_iconst (v := nI 1) dMo_claim_24 (by decide) ?_
      refine ev_iret dMo_claim_25 rfl rfl ?_
      rw [claim_s, if_pos q, if_pos (iI_nle c21)] at hk
      exact hk _ _ _ _ hM hT mo_gr.rf
  · refine ev_if_ne (tgt := 13) dMo_claim_8 (by decide) (fun q9 => absurd (by decide) q9) (fun _ => ?_)
    refine ev_iconst (v := -1) dMo_claim_11 (by decide) ?_
    refine ev_iret dMo_claim_12 rfl rfl ?_
    rw [claim_s, if_neg q] at hk
    exact hk _ _ _ _ hM hT mo_gr.rf
end MO6
