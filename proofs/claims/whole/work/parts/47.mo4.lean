/-! the reference: certificates, credits, balances; unit -/
def MoG (iv : Nat → Int32) (ia : Nat → Nat → Int32) (la : Nat → Nat → Int64) (cs : List Int32) (as : List sA) : Prop := iv 7 = nI cs.length ∧ cs.length ≤ 10 ∧ (∀ k u, cs[k]? = some u → ia 22 k = u) ∧ iv 8 = nI as.length ∧ as.length ≤ 100 ∧ (∀ k a, as[k]? = some a → ia 23 k = a.1 ∧ ia 24 k = a.2.2 ∧ la 25 k = a.2.1)
def mo_gr (iv iv' : Nat → Int32) (ia ia' : Nat → Nat → Int32) (la la' : Nat → Nat → Int64) : Prop := (∀ j, j < 22 → ia' j = ia j ∧ la' j = la j) ∧ (∀ j, j < 7 → iv' j = iv j)
theorem mo_gr.rf {iv : Nat → Int32} {ia : Nat → Nat → Int32} {la : Nat → Nat → Int64} : mo_gr iv iv ia ia la la := ⟨fun _ _ => ⟨rfl, rfl⟩, fun _ _ => rfl⟩
theorem lN_z (x : Int64) : x + lN 0 = x := by rw [show lN 0 = 0 from rfl]; exact Int64.add_zero x
section MO4
variable {G : xG} {l : Launch} {d bc bs : Nat} {h h0 : xH} {n : Nat} {P : Option Value → xH → Nat → Prop} {ad tg : Nat → Nat} {T : Nat} {iv : Nat → Int32} {ia : Nat → Nat → Int32} {la : Nat → Nat → Int64} {cs : List Int32} {as : List sA}
set_option maxRecDepth 20000 in
set_option maxHeartbeats 1000000 in
theorem Mo_balanceOf_ok {c D : Int32} (hM : MoK h0 h ad tg T iv ia la) (hT : MoG iv ia la cs as) (hk : P (some (.long (bal as c D))) h n) : ev_Run G l d bc bs mMo_balanceOf 0 [some (.ref (ad 1000)), some (.int c), some (.int D), none, none, none] [] h n P := by
  obtain ⟨g1, g2, g3, g4, g5, g6⟩ := hT
  have loop : ∀ e j, j + e = as.length → ev_Run G l d bc bs mMo_balanceOf 5 [some (.ref (ad 1000)), some (.int c), some (.int D), some (.long (bal (as.take j) c D)), none, some (.int (nI j))] [] h n P := by
    intro e
    induction e with
    | zero =>
      intro j hj
      refine ev_iload dMo_balanceOf_5 rfl ?_
      refine ev_aload_n dMo_balanceOf_7 rfl rfl ?_
      refine ev_get dMo_balanceOf_8 fMo_181 hM.2.1.1 rfl ?_
      refine ev_icmp_ge (tgt := 56) dMo_balanceOf_11 (by decide) (fun c11 => ?_) (fun c11 => absurd ((by rw [g4]; exact nI_le (by omega) (by omega))) c11)
      refine ev_lload_n dMo_balanceOf_56 rfl rfl ?_
      refine ev_lret dMo_balanceOf_57 rfl ?_
      rw [List.take_of_length_le (by omega)]
      exact hk
    | succ e ih =>
      intro j hj
      obtain ⟨a, ha⟩ : ∃ a, as[j]? = some a := ⟨_, List.getElem?_eq_getElem (by omega)⟩
      obtain ⟨x1, x2, x3⟩ := g6 j a ha
      have hi := ih (j + 1) (by omega)
      rw [bal_take ha, bal1] at hi
      refine ev_iload dMo_balanceOf_5 rfl ?_
      refine ev_aload_n dMo_balanceOf_7 rfl rfl ?_
      refine ev_get dMo_balanceOf_8 fMo_181 hM.2.1.1 rfl ?_
      refine ev_icmp_ge (tgt := 56) dMo_balanceOf_11 (by decide) (fun c11 => False.elim (absurd c11 (by rw [g4]; exact nI_ge (by omega) (by omega)))) (fun c11 => ?_)
      refine ev_lload_n dMo_balanceOf_14 rfl rfl ?_
      refine ev_aload_n dMo_balanceOf_15 rfl rfl ?_
      refine ev_get dMo_balanceOf_16 fMo_78 hM.2.1.1 rfl ?_
      refine ev_iload dMo_balanceOf_19 rfl ?_
      refine ev_iald dMo_balanceOf_21 hM.2.1.g23 rfl rfl (by omega) (by decide) ?_
      refine ev_top (x1) ?_
      refine ev_iload_n dMo_balanceOf_22 rfl rfl ?_
      refine ev_icmp_ne (tgt := 47) dMo_balanceOf_23 (by decide) (fun c23 => ?_) (fun c23 => ?_)
      · rw [if_neg (fun z => c23 z.1)] at hi
        refine ev_lconst (v := lN 0) dMo_balanceOf_47 (by decide) ?_
        refine ev_ladd dMo_balanceOf_48 ?_
        refine ev_topl (lN_z _) ?_
        refine ev_lstore_n dMo_balanceOf_49 rfl (by decide) ?_
        refine ev_iinc dMo_balanceOf_50 rfl (ev_inc1 _) (by decide) ?_
        refine ev_goto (tgt := 5) dMo_balanceOf_53 (by decide) ?_
        exact hi
      · refine ev_aload_n dMo_balanceOf_26 rfl rfl ?_
        refine ev_get dMo_balanceOf_27 fMo_81 hM.2.1.1 rfl ?_
        refine ev_iload dMo_balanceOf_30 rfl ?_
        refine ev_iald dMo_balanceOf_32 hM.2.1.g24 rfl rfl (by omega) (by decide) ?_
        refine ev_top (x2) ?_
        refine ev_iload_n dMo_balanceOf_33 rfl rfl ?_
        refine ev_icmp_gt (tgt := 47) dMo_balanceOf_34 (by decide) (fun c34 => ?_) (fun c34 => ?_)
        · rw [if_neg (fun z => iI_le_nlt z.2 c34)] at hi
          refine ev_lconst (v := lN 0) dMo_balanceOf_47 (by decide) ?_
          refine ev_ladd dMo_balanceOf_48 ?_
          refine ev_topl (lN_z _) ?_
          refine ev_lstore_n dMo_balanceOf_49 rfl (by decide) ?_
          refine ev_iinc dMo_balanceOf_50 rfl (ev_inc1 _) (by decide) ?_
          refine ev_goto (tgt := 5) dMo_balanceOf_53 (by decide) ?_
          exact hi
        · rw [if_pos ⟨c23, iI_nlt c34⟩] at hi
          refine ev_aload_n dMo_balanceOf_37 rfl rfl ?_
          refine ev_get dMo_balanceOf_38 fMo_84 hM.2.1.1 rfl ?_
          refine ev_iload dMo_balanceOf_41 rfl ?_
          refine ev_lald dMo_balanceOf_43 hM.2.1.g25 rfl rfl (by omega) (by decide) ?_
          refine ev_topl (x3) ?_
          refine ev_goto (tgt := 48) dMo_balanceOf_44 (by decide) ?_
          refine ev_ladd dMo_balanceOf_48 ?_
          refine ev_lstore_n dMo_balanceOf_49 rfl (by decide) ?_
          refine ev_iinc dMo_balanceOf_50 rfl (ev_inc1 _) (by decide) ?_
          refine ev_goto (tgt := 5) dMo_balanceOf_53 (by decide) ?_
          exact hi
  refine ev_lconst (v := lN 0) dMo_balanceOf_0 (by decide) ?_
  refine ev_lstore_n dMo_balanceOf_1 rfl (by decide) ?_
  refine ev_iconst (v := nI 0) dMo_balanceOf_2 (by decide) ?_
  refine ev_istore dMo_balanceOf_3 (by decide) ?_
  exact loop as.length 0 (by omega)
set_option maxRecDepth 20000 in
theorem Mo_balance_ok {c D : Int32} (hM : MoK h0 h ad tg T iv ia la) (hT : MoG iv ia la cs as) (hk : P (some (.long (balance_s cs as c D))) h n) : ev_Run G l (d + 1) bc bs mMo_balance 0 [some (.ref (ad 1000)), some (.int c), some (.int D)] [] h n P := by
  have g1 := hT.1
  refine ev_iload_n dMo_balance_0 rfl rfl ?_
  refine ev_if_lt (tgt := 12) dMo_balance_1 (by decide) (fun c1 => ?_) (fun c1 => ?_)
  · refine ev_ldc2 (v := -1) dMo_balance_12 qMo_138 ?_
    refine ev_goto (tgt := 24) dMo_balance_15 (by decide) ?_
    refine ev_lret dMo_balance_24 rfl ?_
    rw [balance_s, if_neg (fun z => z.1 c1)] at hk
    exact hk
  · refine ev_iload_n dMo_balance_4 rfl rfl ?_
    refine ev_aload_n dMo_balance_5 rfl rfl ?_
    refine ev_get dMo_balance_6 fMo_178 hM.2.1.1 rfl ?_
    refine ev_icmp_lt (tgt := 18) dMo_balance_9 (by decide) (fun c9 => ?_) (fun c9 => ?_)
    · rw [g1] at c9
      refine ev_aload_n dMo_balance_18 rfl rfl ?_
      refine ev_iload_n dMo_balance_19 rfl rfl ?_
      refine ev_iload_n dMo_balance_20 rfl rfl ?_
      refine cz_Mo_balanceOf dMo_balance_21 lMo_192 hM.2.1.1 (Nat.le_of_ble_eq_true rfl) (Mo_balanceOf_ok hM hT ?_)
      refine ev_lret dMo_balance_24 rfl ?_
      rw [balance_s, if_pos ⟨c1, c9⟩] at hk
      exact hk
    · rw [g1] at c9
      refine ev_ldc2 (v := -1) dMo_balance_12 qMo_138 ?_
      refine ev_goto (tgt := 24) dMo_balance_15 (by decide) ?_
      refine ev_lret dMo_balance_24 rfl ?_
      rw [balance_s, if_neg (fun z => c9 z.2)] at hk
      exact hk
set_option maxRecDepth 20000 in
theorem Mo_mayAct_ok {c y : Int32} {g : Int64} (hM : MoK h0 h ad tg T iv ia la) (hT : MoG iv ia la cs as) (ht : may_c cs as c g y → P (some (.int (nI 1))) h n) (hf : ¬ may_c cs as c g y → P (some (.int (nI 0))) h n) : ev_Run G l d bc bs mMo_mayAct 0 [some (.ref (ad 1000)), some (.int c), some (.long g), none, some (.int y)] [] h n P := by
  obtain ⟨g1, g2, g3, g4, g5, g6⟩ := hT
  refine ev_iload_n dMo_mayAct_0 rfl rfl ?_
  refine ev_if_lt (tgt := 51) dMo_mayAct_1 (by decide) (fun c1 => ?_) (fun c1 => ?_)
  · refine ev_iconst (v := nI 0) dMo_mayAct_51 (by decide) ?_
    refine ev_iret dMo_mayAct_52 rfl rfl ?_
    exact hf (fun z => z.1.1 c1)
  · refine ev_iload_n dMo_mayAct_4 rfl rfl ?_
    refine ev_aload_n dMo_mayAct_5 rfl rfl ?_
    refine ev_get dMo_mayAct_6 fMo_178 hM.2.1.1 rfl ?_
    refine ev_icmp_ge (tgt := 51) dMo_mayAct_9 (by decide) (fun c9 => ?_) (fun c9 => ?_)
    · rw [g1] at c9
      refine ev_iconst (v := nI 0) dMo_mayAct_51 (by decide) ?_
      refine ev_iret dMo_mayAct_52 rfl rfl ?_
      exact hf (fun z => iI_le_nlt c9 z.1.2)
    · rw [g1] at c9
      refine ev_lload_n dMo_mayAct_12 rfl rfl ?_
      refine ev_lconst (v := lN 1) dMo_mayAct_13 (by decide) ?_
      refine ev_lcmp_lt (tgt := 51) dMo_mayAct_14 dMo_mayAct_15 (by decide) (fun c14 => ?_) (fun c14 => ?_)
      · refine ev_iconst (v := nI 0) dMo_mayAct_51 (by decide) ?_
        refine ev_iret dMo_mayAct_52 rfl rfl ?_
        exact hf (fun z => lI_le_nlt z.2.1.1 c14)
      · refine ev_lload_n dMo_mayAct_18 rfl rfl ?_
        refine ev_ldc2 (v := lN 1000000000) dMo_mayAct_19 qMo_98 ?_
        refine ev_lcmp_gt (tgt := 51) dMo_mayAct_22 dMo_mayAct_23 (by decide) (fun c22 => ?_) (fun c22 => ?_)
        · refine ev_iconst (v := nI 0) dMo_mayAct_51 (by decide) ?_
          refine ev_iret dMo_mayAct_52 rfl rfl ?_
          exact hf (fun z => lI_le_nlt z.2.1.2 c22)
        · refine ev_iload dMo_mayAct_26 rfl ?_
          refine ev_if_lt (tgt := 51) dMo_mayAct_28 (by decide) (fun c28 => ?_) (fun c28 => ?_)
          · refine ev_iconst (v := nI 0) dMo_mayAct_51 (by decide) ?_
            refine ev_iret dMo_mayAct_52 rfl rfl ?_
            exact hf (fun z => z.2.2.1.1 c28)
          · refine ev_iload dMo_mayAct_31 rfl ?_
            refine ev_ldc (v := nI 99999) dMo_mayAct_33 qMo_100 ?_
            refine ev_icmp_gt (tgt := 51) dMo_mayAct_35 (by decide) (fun c35 => ?_) (fun c35 => ?_)
            · refine ev_iconst (v := nI 0) dMo_mayAct_51 (by decide) ?_
              refine ev_iret dMo_mayAct_52 rfl rfl ?_
              exact hf (fun z => iI_le_nlt z.2.2.1.2 c35)
            · refine ev_aload_n dMo_mayAct_38 rfl rfl ?_
              refine ev_get dMo_mayAct_39 fMo_181 hM.2.1.1 rfl ?_
              refine ev_bipush (v := nI 100) dMo_mayAct_42 (by decide) ?_
              refine ev_icmp_ge (tgt := 51) dMo_mayAct_44 (by decide) (fun c44 => ?_) (fun c44 => ?_)
              · rw [g4] at c44
                have c44' := (nI_leI (by decide) (by omega)).mp c44
                refine ev_iconst (v := nI 0) dMo_mayAct_51 (by decide) ?_
                refine ev_iret dMo_mayAct_52 rfl rfl ?_
                exact hf (fun z => absurd z.2.2.2 (by omega))
              · rw [g4] at c44
                have c44' : as.length < 100 := (by rcases Nat.lt_or_ge as.length 100 with z | z; exact z; exact absurd ((nI_leI (by decide) (by omega)).mpr z) c44)
                refine ev_iconst (v := nI 1) dMo_mayAct_47 (by decide) ?_
                refine ev_goto (tgt := 52) dMo_mayAct_48 (by decide) ?_
                refine ev_iret dMo_mayAct_52 rfl rfl ?_
                exact ht ⟨⟨c1, iI_nle c9⟩, ⟨lI_nlt c14, lI_nlt c22⟩, ⟨c28, iI_nlt c35⟩, c44'⟩
set_option maxRecDepth 20000 in
set_option maxHeartbeats 1000000 in
theorem Mo_act_ok {c y : Int32} {g : Int64} (hM : MoK h0 h ad tg T iv ia la) (hT : MoG iv ia la cs as) (hlt : as.length < 100) (hk : ∀ h' iv' ia' la', MoK h0 h' ad tg T iv' ia' la' → MoG iv' ia' la' cs (as ++ [(c, g, y)]) → mo_gr iv iv' ia ia' la la' → P none h' n) : ev_Run G l d bc bs mMo_act 0 [some (.ref (ad 1000)), some (.int c), some (.long g), none, some (.int y)] [] h n P := by
  obtain ⟨g1, g2, g3, g4, g5, g6⟩ := hT
  refine ev_aload_n dMo_act_0 rfl rfl ?_
  refine ev_get dMo_act_1 fMo_78 hM.2.1.1 rfl ?_
  refine ev_aload_n dMo_act_4 rfl rfl ?_
  refine ev_get dMo_act_5 fMo_181 hM.2.1.1 rfl ?_
  refine ev_iload_n dMo_act_8 rfl rfl ?_
  refine ev_iast dMo_act_9 hM.2.1.g23 rfl (g4) (hlt) (by decide) ?_
  refine mo_ist (j := 23) (t := 0) (N := 100) hM (by decide) (fun h9 m9 => ?_)
  refine ev_aload_n dMo_act_10 rfl rfl ?_
  refine ev_get dMo_act_11 fMo_84 m9.2.1.1 rfl ?_
  refine ev_aload_n dMo_act_14 rfl rfl ?_
  refine ev_get dMo_act_15 fMo_181 m9.2.1.1 rfl ?_
  refine ev_lload_n dMo_act_18 rfl rfl ?_
  refine ev_last dMo_act_19 m9.2.1.g25 rfl (g4) (hlt) (by decide) ?_
  refine mo_lst (j := 25) (N := 100) m9 (by decide) (fun h19 m19 => ?_)
  refine ev_aload_n dMo_act_20 rfl rfl ?_
  refine ev_get dMo_act_21 fMo_81 m19.2.1.1 rfl ?_
  refine ev_aload_n dMo_act_24 rfl rfl ?_
  refine ev_get dMo_act_25 fMo_181 m19.2.1.1 rfl ?_
  refine ev_iload dMo_act_28 rfl ?_
  refine ev_iast dMo_act_30 m19.2.1.g24 rfl (g4) (hlt) (by decide) ?_
  refine mo_ist (j := 24) (t := 0) (N := 100) m19 (by decide) (fun h30 m30 => ?_)
  refine ev_aload_n dMo_act_31 rfl rfl ?_
  refine ev_dup dMo_act_32 rfl ?_
  refine ev_get dMo_act_33 fMo_181 m30.2.1.1 rfl ?_
  refine ev_iconst (v := nI 1) dMo_act_36 (by decide) ?_
  refine ev_iadd dMo_act_37 ?_
  refine ev_top (y := nI (as.length + 1)) (by rw [g4]; exact nI_add _ _) ?_
  refine ev_put dMo_act_38 fMo_181 tMo_30 m30.2.1.1 rfl rfl (Nat.le_of_ble_eq_true rfl) ?_
  refine mo_put m30 Mo_c8 (fun h38 m38 => ?_)
  refine ev_vret dMo_act_41 rfl ?_
  refine hk _ _ _ _ m38 ⟨g1, g2, g3, ?_, by rw [List.length_append]; exact hlt, fun k a ha => ?_⟩ ⟨fun j hj => ⟨by rw [upv_n (by omega), upv_n (by omega)], upv_n (by omega)⟩, fun j hj => upv_n (by omega)⟩
  · rw [List.length_append]; rfl
  · show upd (ia 23) as.length c k = _ ∧ upd (ia 24) as.length y k = _ ∧ vp_updL (la 25) as.length g k = _; rcases Nat.lt_or_ge k as.length with q | q; (rw [List.getElem?_append_left q] at ha; rw [pk_un (by omega), pk_un (by omega), pk_uLn (by omega)]; exact g6 k a ha); (have hk1 := (List.getElem?_eq_some_iff.mp ha).1; have : k = as.length := (by simp at hk1; omega); subst this; simp at ha; subst ha; exact ⟨pk_us, pk_us, pk_uLs⟩)
set_option maxRecDepth 20000 in
theorem Mo_credit_ok {c y : Int32} {g : Int64} (hM : MoK h0 h ad tg T iv ia la) (hT : MoG iv ia la cs as) (hk : ∀ h' iv' ia' la', MoK h0 h' ad tg T iv' ia' la' → MoG iv' ia' la' cs (credit_s cs as c g y).2 → mo_gr iv iv' ia ia' la la' → P (some (.int (credit_s cs as c g y).1)) h' n) : ev_Run G l (d + 1) bc bs mMo_credit 0 [some (.ref (ad 1000)), some (.int c), some (.long g), none, some (.int y)] [] h n P := by
  refine ev_aload_n dMo_credit_0 rfl rfl ?_
  refine ev_iload_n dMo_credit_1 rfl rfl ?_
  refine ev_lload_n dMo_credit_2 rfl rfl ?_
  refine ev_iload dMo_credit_3 rfl ?_
  refine cz_Mo_mayAct dMo_credit_5 lMo_184 hM.2.1.1 (Nat.le_of_ble_eq_true rfl) (Mo_mayAct_ok hM hT (fun q => ?_) (fun q => ?_))
  · rw [credit_s, if_pos q] at hk
    refine ev_if_ne (tgt := 13) dMo_credit_8 (by decide) (fun _ => ?_) (fun q9 => absurd q9 (by decide))
    refine ev_aload_n dMo_credit_13 rfl rfl ?_
    refine ev_iload_n dMo_credit_14 rfl rfl ?_
    refine ev_lload_n dMo_credit_15 rfl rfl ?_
    refine ev_iload dMo_credit_16 rfl ?_
    refine cz_Mo_act dMo_credit_18 lMo_188 hM.2.1.1 (Nat.le_of_ble_eq_true rfl) (Mo_act_ok hM hT q.2.2.2 (fun h1 iv1 ia1 la1 m1 t1 r1 => ?_))
    refine ev_iconst (v := nI 1) dMo_credit_21 (by decide) ?_
    refine ev_iret dMo_credit_22 rfl rfl ?_
    exact hk _ _ _ _ m1 t1 r1
  · rw [credit_s, if_neg q] at hk
    refine ev_if_ne (tgt := 13) dMo_credit_8 (by decide) (fun q9 => absurd (by decide) q9) (fun _ => ?_)
    refine ev_iconst (v := nI 0) dMo_credit_11 (by decide) ?_
    refine ev_iret dMo_credit_12 rfl rfl ?_
    exact hk _ _ _ _ hM hT mo_gr.rf
end MO4
