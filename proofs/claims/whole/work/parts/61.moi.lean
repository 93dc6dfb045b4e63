/-! the reference: into, box -/
theorem set_end {α : Type} (ts : List α) (a b c : α) (j : Nat) (hj : j < ts.length) : ((ts ++ [a]).set ts.length b).set j c = ts.set j c ++ [b] := by
  rw [List.set_append_right _ _ (Nat.le_refl _), Nat.sub_self, List.set_append_left _ _ hj]
  rfl
theorem iI_cl {p : Int32} {m : Nat} (hm : m < 2 ^ 31) (h : p ≤ nI m) : p.toNatClampNeg ≤ m := by
  rw [Int32.le_iff_toInt_le, nI_toInt hm] at h
  show p.toInt.toNat ≤ m
  omega
section MOI
variable {G : xG} {l : Launch} {d bc bs : Nat} {h h0 : xH} {n : Nat} {P : Option Value → xH → Nat → Prop} {ad tg : Nat → Nat} {T : Nat} {iv : Nat → Int32} {ia : Nat → Nat → Int32} {la : Nat → Nat → Int64} {ts : List sT}
theorem mo_into_end {i j w : Nat} {t u : sT} {L R : sL} {ia1 ia2 : Nat → Nat → Int32} {la1 la2 : Nat → Nat → Int64} (T1 : MoT iv ia1 la1 ts) (hij : ¬ i = j) (x2 : ts[i]? = some t) (y2 : ts[j]? = some u) (p2 : ia2 2 i = nI L.length) (p3 : mo_cn i L ia2 la2) (p4 : mo_ag i ia1 ia2 la1 la2) (p5 : mo_lr ia1 ia2 la1 la2) (hL : L.length ≤ 80) (ot : t_ok (t_setW (t_setL t L) w)) :
    mo_t j u ia2 la2 ∧ (∀ ia3 la3, ia3 2 j = nI R.length → mo_cn j R ia3 la3 → mo_ag j ia2 ia3 la2 la3 → mo_lr ia2 ia3 la2 la3 → R.length ≤ 80 → t_ok (t_setL u R) → ia3 7 i = nI (t_warm t) ∧ ia3 7 j = nI (t_warm u) ∧ MoT iv (upv ia3 7 (upd (ia3 7) i (nI w))) la3 ((ts.set i (t_setW (t_setL t L) w)).set j (t_setL u R))) := by
  have hi : i < ts.length := (List.getElem?_eq_some_iff.mp x2).1
  have hj : j < ts.length := (List.getElem?_eq_some_iff.mp y2).1
  obtain ⟨ti, -, o⟩ := T1.2.2.1 i t x2
  have T2 : MoT iv ia2 la2 (ts.set i (t_setL t L)) := MoT_set T1 hi rfl p4 (mo_tL ti p2 p3 p5) hL ⟨o.1, o.2.1, o.2.2.1, o.2.2.2.1, o.2.2.2.2.1, o.2.2.2.2.2.1, o.2.2.2.2.2.2.1, ot.2.2.2.2.2.2.2⟩
  have yj : (ts.set i (t_setL t L))[j]? = some u := by rw [List.getElem?_set_ne hij]; exact y2
  obtain ⟨tj, -, -⟩ := T2.2.2.1 j u yj
  refine ⟨tj, fun ia3 la3 t2 t3 t4 t5 hR ou => ?_⟩
  have T3 : MoT iv ia3 la3 ((ts.set i (t_setL t L)).set j (t_setL u R)) := MoT_set T2 (by rw [List.length_set]; exact hj) rfl t4 (mo_tL tj t2 t3 t5) hR ou
  have xi : ((ts.set i (t_setL t L)).set j (t_setL u R))[i]? = some (t_setL t L) := by rw [List.getElem?_set_ne (fun z => hij z.symm), List.getElem?_set_self hi]
  have xj : ((ts.set i (t_setL t L)).set j (t_setL u R))[j]? = some (t_setL u R) := List.getElem?_set_self (by rw [List.length_set]; exact hj)
  obtain ⟨⟨a1, a2, a3, a4, a5, a6, a7, a8, a9⟩, -, -⟩ := T3.2.2.1 i _ xi
  obtain ⟨⟨b1, b2, b3, b4, b5, b6, -⟩, -, -⟩ := T3.2.2.1 j _ xj
  have T4 : MoT iv (upv ia3 7 (upd (ia3 7) i (nI w))) la3 (((ts.set i (t_setL t L)).set j (t_setL u R)).set i (t_setW (t_setL t L) w)) := MoT_set T3 (by rw [List.length_set, List.length_set]; exact hi) rfl ag_7 ⟨a1, a2, a3, a4, a5, pk_us, a7, a8, a9⟩ hL ot
  rw [List.set_comm _ _ (fun z => hij z.symm), List.set_set] at T4
  exact ⟨a6, b6, T4⟩
set_option maxRecDepth 20000 in
set_option maxHeartbeats 2000000 in
theorem Mo_into_ok {b f : Int32} {g : Int64} (hM : MoK h0 h ad tg T iv ia la) (hT : MoT iv ia la ts) (hok : ∀ t ∈ (into_s ts b f g).2, t_ok t) (hk : ∀ h' iv' ia' la', MoK h0 h' ad tg T iv' ia' la' → MoT iv' ia' la' (into_s ts b f g).2 → mo_rest iv iv' ia ia' la la' → P (some (.int (into_s ts b f g).1)) h' n) : ev_Run G l (d + 2) bc bs mMo_into 0 [some (.ref (ad 1000)), some (.int b), some (.int f), some (.long g), none] [] h n P := by
  have h70 := hT.2.1
  have refuse : ∀ h' iv' ia' la', MoK h0 h' ad tg T iv' ia' la' → mo_zr iv iv' ia ia' la la' → into_s ts b f g = (nI 0, ts) → P (some (.int (nI 0))) h' n := by
    intro h' iv' ia' la' m r he
    have := hk h' iv' ia' la' m
    rw [he] at this
    exact this (hT.zr r) r.rest
  refine ev_aload_n dMo_into_0 rfl rfl ?_
  refine ev_iload_n dMo_into_1 rfl rfl ?_
  refine ev_iconst (v := nI 2) dMo_into_2 (by decide) ?_
  refine cz_Mo_isOf dMo_into_3 lMo_116 hM.2.1.1 (Nat.le_of_ble_eq_true rfl) (Mo_isOf_ok (w := 2) (by decide) hM hT (fun i t q1 q2 => ?_) (fun q1 => ?_))
  · obtain ⟨rfl, x2, x3⟩ := fnd_some q1
    have hi : i < ts.length := (List.getElem?_eq_some_iff.mp x2).1
    obtain ⟨⟨k1, k2, k3, k4, k5, k6, k7, k8, k9⟩, k10, o⟩ := hT.2.2.1 i t x2
    refine ev_if_eq (tgt := 49) dMo_into_6 (by decide) (fun q9 => absurd q9 (by decide)) (fun _ => ?_)
    refine ev_aload_n dMo_into_9 rfl rfl ?_
    refine ev_iload_n dMo_into_10 rfl rfl ?_
    refine cz_Mo_isSource dMo_into_11 lMo_120 hM.2.1.1 (Nat.le_of_ble_eq_true rfl) (Mo_isSource_ok hM hT (fun j u q3 q4 => ?_) (fun q3 => ?_))
    · obtain ⟨rfl, y2, y3⟩ := fnd_some q3
      have hj : j < ts.length := (List.getElem?_eq_some_iff.mp y2).1
      obtain ⟨⟨l1, l2, l3, l4, l5, l6, l7, l8, l9⟩, l10, p⟩ := hT.2.2.1 j u y2
      have ref2 : ∀ h' iv' ia' la', MoK h0 h' ad tg T iv' ia' la' → mo_zr iv iv' ia ia' la la' → ¬ into_c (i, t) (j, u) g → P (some (.int (nI 0))) h' n := (fun h' iv' ia' la' m r hc => refuse _ _ _ _ m r (into_no (fun p q h1 h2 z => hc (by rw [q1] at h1; rw [q3] at h2; cases h1; cases h2; exact z))))
      have htl := sl_tot_lt p.2.2.2.2.2.2.2.2.1 l10
      refine ev_if_eq (tgt := 49) dMo_into_14 (by decide) (fun q9 => absurd q9 (by decide)) (fun _ => ?_)
      refine ev_iload_n dMo_into_17 rfl rfl ?_
      refine ev_iload_n dMo_into_18 rfl rfl ?_
      refine ev_icmp_eq (tgt := 49) dMo_into_19 (by decide) (fun c19 => ?_) (fun c19 => ?_)
      · refine ev_iconst (v := nI 0) dMo_into_49 (by decide) ?_
        refine ev_iret dMo_into_50 rfl rfl ?_
        exact ref2 _ _ _ _ hM mo_zr.rf (fun z => z.1.1 ((nI_eq (by omega) (by omega)).mp c19))
      · refine ev_aload_n dMo_into_22 rfl rfl ?_
        refine ev_get dMo_into_23 fMo_26 hM.2.1.1 rfl ?_
        refine ev_iload_n dMo_into_26 rfl rfl ?_
        refine ev_zald dMo_into_27 hM.2.1.g6 rfl rfl (by omega) (by decide) ?_
        refine ev_top (k5) ?_
        refine ev_if_ne (tgt := 49) dMo_into_28 (by decide) (fun c28 => ?_) (fun c28 => ?_)
        · refine ev_iconst (v := nI 0) dMo_into_49 (by decide) ?_
          refine ev_iret dMo_into_50 rfl rfl ?_
          exact ref2 _ _ _ _ hM mo_zr.rf (fun z => c28 (by rw [show t_held t = 0 from z.1.2.2.2.1]; rfl))
        · refine ev_aload_n dMo_into_31 rfl rfl ?_
          refine ev_get dMo_into_32 fMo_26 hM.2.1.1 rfl ?_
          refine ev_iload_n dMo_into_35 rfl rfl ?_
          refine ev_zald dMo_into_36 hM.2.1.g6 rfl rfl (by omega) (by decide) ?_
          refine ev_top (l5) ?_
          refine ev_if_ne (tgt := 49) dMo_into_37 (by decide) (fun c37 => ?_) (fun c37 => ?_)
          · refine ev_iconst (v := nI 0) dMo_into_49 (by decide) ?_
            refine ev_iret dMo_into_50 rfl rfl ?_
            exact ref2 _ _ _ _ hM mo_zr.rf (fun z => c37 (by rw [show t_held u = 0 from z.1.2.2.2.2]; rfl))
          · refine ev_aload_n dMo_into_40 rfl rfl ?_
            refine ev_iload_n dMo_into_41 rfl rfl ?_
            refine ev_lload_n dMo_into_42 rfl rfl ?_
            refine cz_Mo_has dMo_into_43 lMo_123 hM.2.1.1 (Nat.le_of_ble_eq_true rfl) (Mo_has_ok hM hT y2 (fun g1 => ?_) (fun g1 => ?_))
            · obtain ⟨g', hg1, hg2, rfl⟩ := lL_in (by omega) g1.1 g1.2
              have hij : ¬ i = j := fun z => c19 (by rw [z])
              refine ev_if_ne (tgt := 51) dMo_into_46 (by decide) (fun _ => ?_) (fun q9 => absurd q9 (by decide))
              refine ev_aload_n dMo_into_51 rfl rfl ?_
              refine ev_iload_n dMo_into_52 rfl rfl ?_
              refine ev_iload_n dMo_into_53 rfl rfl ?_
              refine ev_lload_n dMo_into_54 rfl rfl ?_
              refine cz_Mo_layBy dMo_into_55 lMo_127 hM.2.1.1 (Nat.le_of_ble_eq_true rfl) (Mo_layBy_ok hM hT (Or.inr ⟨i, t, x2, rfl, rfl⟩) y2 (by omega) (fun h1 iv1 ia1 la1 mz z1 r1 => ?_))
              have hle := sl_jl_le (sl_tk (t_ls u) g') (t_ls t)
              have hle2 := sl_tk_len (t_ls u) g'
              refine ev_aload_n dMo_into_58 rfl rfl ?_
              refine ev_get dMo_into_59 fMo_105 mz.2.1.1 rfl ?_
              refine ev_bipush (v := nI 80) dMo_into_62 (by decide) ?_
              refine ev_icmp_le (tgt := 69) dMo_into_64 (by decide) (fun c64 => ?_) (fun c64 => ?_)
              · rw [z1.1, nI_leI (by omega) (by decide)] at c64
                have hh1 : t_held t = 0 := (nI_eq (by have := o.2.2.2.2.2.1; omega) (by decide)).mp c28
                have hh2 : t_held u = 0 := (nI_eq (by have := p.2.2.2.2.2.1; omega) (by decide)).mp c37
                have hc : into_c (i, t) (j, u) (lN g') := ⟨⟨hij, q2, q4, hh1, hh2⟩, g1, (by rw [gN_lN (by omega)]; exact c64)⟩
                have hy : into_s ts (nI i) (nI j) (lN g') = (nI 1, (ts.set i (t_setW (t_setL t (sl_jl (t_ls t) (sl_tk (t_ls u) g'))) (max (t_warm t) (t_warm u)))).set j (t_setL u (sl_rs (t_ls u) g'))) := (by have := into_yes q1 q3 hc; rw [gN_lN (by omega)] at this; exact this)
                rw [hy] at hk hok
                have ot : t_ok (t_setW (t_setL t (sl_jl (t_ls t) (sl_tk (t_ls u) g'))) (max (t_warm t) (t_warm u))) := hok _ (List.mem_of_getElem? (i := i) (by show ((ts.set i _).set j _)[i]? = _; rw [List.getElem?_set_ne (fun z => hij z.symm), List.getElem?_set_self hi]))
                have ou : t_ok (t_setL u (sl_rs (t_ls u) g')) := hok _ (List.mem_of_getElem? (i := j) (List.getElem?_set_self (by rw [List.length_set]; exact hj)))
                refine ev_aload_n dMo_into_69 rfl rfl ?_
                refine ev_iload_n dMo_into_70 rfl rfl ?_
                refine cz_Mo_putDown dMo_into_71 lMo_131 mz.2.1.1 (Nat.le_of_ble_eq_true rfl) (Mo_putDown_ok (by omega) c64 mz z1 (fun h2 ia2 la2 mp p2 p3 p4 p5 => ?_))
                have E := mo_into_end (R := sl_rs (t_ls u) g') (hT.zr r1) hij x2 y2 p2 p3 p4 p5 c64 ot
                refine ev_aload_n dMo_into_74 rfl rfl ?_
                refine ev_iload_n dMo_into_75 rfl rfl ?_
                refine ev_lload_n dMo_into_76 rfl rfl ?_
                refine cz_Mo_takeOut dMo_into_77 lMo_135 mp.2.1.1 (Nat.le_of_ble_eq_true rfl) (Mo_takeOut_ok (by omega) l10 p.2.2.2.2.2.2.2.2.1 (by omega) mp E.1.2.1 E.1.2.2.1 (fun h3 ia3 la3 mt t2 t3 t4 t5 => ?_))
                have E2 := E.2 ia3 la3 t2 t3 t4 t5 (Nat.le_trans (sl_rs_len _ _) l10) ou
                have w1 := o.2.2.2.2.2.2.1
                have w2 := p.2.2.2.2.2.2.1
                refine ev_aload_n dMo_into_80 rfl rfl ?_
                refine ev_get dMo_into_81 fMo_30 mt.2.1.1 rfl ?_
                refine ev_iload_n dMo_into_84 rfl rfl ?_
                refine ev_aload_n dMo_into_85 rfl rfl ?_
                refine ev_get dMo_into_86 fMo_30 mt.2.1.1 rfl ?_
                refine ev_iload_n dMo_into_89 rfl rfl ?_
                refine ev_iald dMo_into_90 mt.2.1.g7 rfl rfl (by omega) (by decide) ?_
                refine ev_top (E2.2.1) ?_
                refine ev_aload_n dMo_into_91 rfl rfl ?_
                refine ev_get dMo_into_92 fMo_30 mt.2.1.1 rfl ?_
                refine ev_iload_n dMo_into_95 rfl rfl ?_
                refine ev_iald dMo_into_96 mt.2.1.g7 rfl rfl (by omega) (by decide) ?_
                refine ev_top (E2.1) ?_
                refine ev_icmp_le (tgt := 109) dMo_into_97 (by decide) (fun c97 => ?_) (fun c97 => ?_)
                · rw [nI_leI (by omega) (by omega)] at c97
                  rw [Nat.max_eq_left c97] at hk E2
                  refine ev_aload_n dMo_into_109 rfl rfl ?_
                  refine ev_get dMo_into_110 fMo_30 mt.2.1.1 rfl ?_
                  refine ev_iload_n dMo_into_113 rfl rfl ?_
                  refine ev_iald dMo_into_114 mt.2.1.g7 rfl rfl (by omega) (by decide) ?_
                  refine ev_top (E2.1) ?_
                  refine ev_iast dMo_into_115 mt.2.1.g7 rfl rfl (by omega) (by decide) ?_
                  refine mo_ist (j := 7) (t := 0) (N := 70) mt (by decide) (fun h115 m115 => ?_)
                  refine ev_iconst (v := nI 1) dMo_into_116 (by decide) ?_
                  refine ev_iret dMo_into_117 rfl rfl ?_
                  exact hk _ _ _ _ m115 E2.2.2 (r1.rest.tr (p5.rest.tr (t5.rest.tr (rest_i (by omega)))))
                · rw [nI_leI (by omega) (by omega)] at c97
                  rw [Nat.max_eq_right (by omega)] at hk E2
                  refine ev_aload_n dMo_into_100 rfl rfl ?_
                  refine ev_get dMo_into_101 fMo_30 mt.2.1.1 rfl ?_
                  refine ev_iload_n dMo_into_104 rfl rfl ?_
                  refine ev_iald dMo_into_105 mt.2.1.g7 rfl rfl (by omega) (by decide) ?_
                  refine ev_top (E2.2.1) ?_
                  refine ev_goto (tgt := 115) dMo_into_106 (by decide) ?_
                  refine ev_iast dMo_into_115 mt.2.1.g7 rfl rfl (by omega) (by decide) ?_
                  refine mo_ist (j := 7) (t := 0) (N := 70) mt (by decide) (fun h115 m115 => ?_)
                  refine ev_iconst (v := nI 1) dMo_into_116 (by decide) ?_
                  refine ev_iret dMo_into_117 rfl rfl ?_
                  exact hk _ _ _ _ m115 E2.2.2 (r1.rest.tr (p5.rest.tr (t5.rest.tr (rest_i (by omega)))))
              · rw [z1.1, nI_leI (by omega) (by decide)] at c64
                refine ev_iconst (v := nI 0) dMo_into_67 (by decide) ?_
                refine ev_iret dMo_into_68 rfl rfl ?_
                exact ref2 _ _ _ _ mz r1 (fun z => c64 (by have := z.2.2; rw [gN_lN (by omega)] at this; exact this))
            · refine ev_if_ne (tgt := 51) dMo_into_46 (by decide) (fun q9 => absurd (by decide) q9) (fun _ => ?_)
              refine ev_iconst (v := nI 0) dMo_into_49 (by decide) ?_
              refine ev_iret dMo_into_50 rfl rfl ?_
              exact ref2 _ _ _ _ hM mo_zr.rf (fun z => g1 z.2.1)
    · refine ev_if_eq (tgt := 49) dMo_into_14 (by decide) (fun _ => ?_) (fun q9 => absurd (by decide) q9)
      refine ev_iconst (v := nI 0) dMo_into_49 (by decide) ?_
      refine ev_iret dMo_into_50 rfl rfl ?_
      exact refuse _ _ _ _ hM mo_zr.rf (into_no (fun p q h1 h2 z => z.1.2.2.1 (q3 q.1 q.2 h2)))
  · refine ev_if_eq (tgt := 49) dMo_into_6 (by decide) (fun _ => ?_) (fun q9 => absurd (by decide) q9)
    refine ev_iconst (v := nI 0) dMo_into_49 (by decide) ?_
    refine ev_iret dMo_into_50 rfl rfl ?_
    exact refuse _ _ _ _ hM mo_zr.rf (into_no (fun p q h1 h2 z => q1 p.1 p.2 h1 z.1.2.1))
set_option maxRecDepth 20000 in
set_option maxHeartbeats 2000000 in
theorem Mo_box_ok {f c : Int32} {g : Int64} (hM : MoK h0 h ad tg T iv ia la) (hT : MoT iv ia la ts) (hok : ∀ t ∈ (box_s ts f g c).2, t_ok t) (hk : ∀ h' iv' ia' la', MoK h0 h' ad tg T iv' ia' la' → MoT iv' ia' la' (box_s ts f g c).2 → mo_rest iv iv' ia ia' la la' → P (some (.int (box_s ts f g c).1)) h' n) : ev_Run G l (d + 2) bc bs mMo_box 0 [some (.ref (ad 1000)), some (.int f), some (.long g), none, some (.int c), none] [] h n P := by
  have h70 := hT.2.1
  have refuse : ∀ h' iv' ia' la', MoK h0 h' ad tg T iv' ia' la' → mo_zr iv iv' ia ia' la la' → box_s ts f g c = (-1, ts) → P (some (.int (-1))) h' n := by
    intro h' iv' ia' la' m r he
    have := hk h' iv' ia' la' m
    rw [he] at this
    exact this (hT.zr r) r.rest
  have hn0 : ([] : sL).length = 0 := rfl
  refine ev_aload_n dMo_box_0 rfl rfl ?_
  refine ev_iload_n dMo_box_1 rfl rfl ?_
  refine cz_Mo_isSource dMo_box_2 lMo_120 hM.2.1.1 (Nat.le_of_ble_eq_true rfl) (Mo_isSource_ok hM hT (fun j u q3 q4 => ?_) (fun q3 => ?_))
  · obtain ⟨rfl, y2, y3⟩ := fnd_some q3
    have hj : j < ts.length := (List.getElem?_eq_some_iff.mp y2).1
    obtain ⟨⟨l1, l2, l3, l4, l5, l6, l7, l8, l9⟩, l10, p⟩ := hT.2.2.1 j u y2
    have ref2 : ∀ h' iv' ia' la', MoK h0 h' ad tg T iv' ia' la' → mo_zr iv iv' ia ia' la la' → ¬ box_c ts (j, u) g c → P (some (.int (-1))) h' n := (fun h' iv' ia' la' m r hc => refuse _ _ _ _ m r (box_no (fun q h2 z => hc (by rw [q3] at h2; cases h2; exact z))))
    have htl := sl_tot_lt p.2.2.2.2.2.2.2.2.1 l10
    refine ev_if_eq (tgt := 38) dMo_box_5 (by decide) (fun q9 => absurd q9 (by decide)) (fun _ => ?_)
    refine ev_iload dMo_box_8 rfl ?_
    refine ev_if_lt (tgt := 38) dMo_box_10 (by decide) (fun c10 => ?_) (fun c10 => ?_)
    · refine ev_iconst (v := -1) dMo_box_38 (by decide) ?_
      refine ev_iret dMo_box_39 rfl rfl ?_
      exact ref2 _ _ _ _ hM mo_zr.rf (fun z => z.2.1.1 c10)
    · refine ev_iload dMo_box_13 rfl ?_
      refine ev_bipush (v := nI 99) dMo_box_15 (by decide) ?_
      refine ev_icmp_gt (tgt := 38) dMo_box_17 (by decide) (fun c17 => ?_) (fun c17 => ?_)
      · refine ev_iconst (v := -1) dMo_box_38 (by decide) ?_
        refine ev_iret dMo_box_39 rfl rfl ?_
        exact ref2 _ _ _ _ hM mo_zr.rf (fun z => iI_le_nlt z.2.1.2 c17)
      · refine ev_aload_n dMo_box_20 rfl rfl ?_
        refine ev_get dMo_box_21 fMo_26 hM.2.1.1 rfl ?_
        refine ev_iload_n dMo_box_24 rfl rfl ?_
        refine ev_zald dMo_box_25 hM.2.1.g6 rfl rfl (by omega) (by decide) ?_
        refine ev_top (l5) ?_
        refine ev_if_ne (tgt := 38) dMo_box_26 (by decide) (fun c26 => ?_) (fun c26 => ?_)
        · refine ev_iconst (v := -1) dMo_box_38 (by decide) ?_
          refine ev_iret dMo_box_39 rfl rfl ?_
          exact ref2 _ _ _ _ hM mo_zr.rf (fun z => c26 (by rw [show t_held u = 0 from z.2.2.1]; rfl))
        · refine ev_aload_n dMo_box_29 rfl rfl ?_
          refine ev_iload_n dMo_box_30 rfl rfl ?_
          refine ev_lload_n dMo_box_31 rfl rfl ?_
          refine cz_Mo_has dMo_box_32 lMo_123 hM.2.1.1 (Nat.le_of_ble_eq_true rfl) (Mo_has_ok hM hT y2 (fun g1 => ?_) (fun g1 => ?_))
          · obtain ⟨g', hg1, hg2, rfl⟩ := lL_in (by omega) g1.1 g1.2
            refine ev_if_ne (tgt := 40) dMo_box_35 (by decide) (fun _ => ?_) (fun q9 => absurd q9 (by decide))
            refine ev_aload_n dMo_box_40 rfl rfl ?_
            refine ev_iconst (v := -1) dMo_box_41 (by decide) ?_
            refine ev_iload_n dMo_box_42 rfl rfl ?_
            refine ev_lload_n dMo_box_43 rfl rfl ?_
            refine cz_Mo_layBy dMo_box_44 lMo_127 hM.2.1.1 (Nat.le_of_ble_eq_true rfl) (Mo_layBy_ok hM hT (Or.inl ⟨rfl, rfl⟩) y2 (by omega) (fun h1 iv1 ia1 la1 mz z1 r1 => ?_))
            have hle := sl_jl_le (sl_tk (t_ls u) g') []
            have hle2 := sl_tk_len (t_ls u) g'
            have hL : (sl_jl [] (sl_tk (t_ls u) g')).length ≤ 80 := (by omega)
            have e0 : iv1 0 = nI ts.length := (r1.1 0 (by omega)).trans hT.1
            refine ev_aload_n dMo_box_47 rfl rfl ?_
            refine ev_get dMo_box_48 fMo_105 mz.2.1.1 rfl ?_
            refine ev_bipush (v := nI 80) dMo_box_51 (by decide) ?_
            refine ev_icmp_gt (tgt := 65) dMo_box_53 (by decide) (fun c53 => False.elim (absurd c53 (by rw [z1.1]; exact iI_le_nlt ((nI_leI (by omega) (by decide)).mpr hL)))) (fun c53 => ?_)
            refine ev_aload_n dMo_box_56 rfl rfl ?_
            refine ev_get dMo_box_57 fMo_90 mz.2.1.1 rfl ?_
            refine ev_bipush (v := nI 70) dMo_box_60 (by decide) ?_
            refine ev_icmp_ne (tgt := 67) dMo_box_62 (by decide) (fun c62 => ?_) (fun c62 => ?_)
            · have hlt : ts.length < 70 := (by rcases Nat.lt_or_ge ts.length 70 with z | z; exact z; exact absurd (by rw [e0]; congr 1; omega) c62)
              obtain ⟨c', hc', rfl⟩ := iI_lim (by decide) c10 (iI_nlt c17)
              have hh2 : t_held u = 0 := (nI_eq (by have := p.2.2.2.2.2.1; omega) (by decide)).mp c26
              have hc : box_c ts (j, u) (lN g') (nI c') := ⟨q4, ⟨c10, iI_nlt c17⟩, hh2, g1, hlt⟩
              have hy : box_s ts (nI j) (lN g') (nI c') = (nI ts.length, (ts.set j (t_setL u (sl_rs (t_ls u) g'))) ++ [(3, c', 0, 0, 0, 0, t_warm u, sl_jl [] (sl_tk (t_ls u) g'))]) := (by have := box_yes q3 hc; rw [gN_lN (by omega), nI_clamp (by omega)] at this; exact this)
              rw [hy] at hk hok
              have ot : t_ok (t_setW (t_setL (3, c', 0, 0, 0, 0, 0, []) (sl_jl [] (sl_tk (t_ls u) g'))) (t_warm u)) := hok _ (List.mem_append_right _ List.mem_cons_self)
              have ou : t_ok (t_setL u (sl_rs (t_ls u) g')) := hok _ (List.mem_append_left _ (List.mem_of_getElem? (i := j) (List.getElem?_set_self hj)))
              have T1 := hT.zr r1
              refine ev_aload_n dMo_box_67 rfl rfl ?_
              refine ev_iconst (v := nI 3) dMo_box_68 (by decide) ?_
              refine ev_iload dMo_box_69 rfl ?_
              refine ev_iconst (v := nI 0) dMo_box_71 (by decide) ?_
              refine ev_lconst (v := lN 0) dMo_box_72 (by decide) ?_
              refine cz_Mo_make dMo_box_73 lMo_101 mz.2.1.1 (Nat.le_of_ble_eq_true rfl) (Mo_make_ok (k := nI 3) (y := nI 0) (g := lN 0) mz T1 hlt (fun h2 iv2 ia2 la2 mm m1 v0 v1 ag j1 j2 a1 a2 a3 a4 => ?_))
              have T2 : MoT iv2 ia2 la2 (ts ++ [(3, c', 0, 0, 0, 0, 0, [])]) := MoT_add T1 hlt v0 ag (mo_new T1 hlt j1 j2 a1 a2 a3 a4) (Nat.zero_le 80) (t_ok_mk (by omega) (by omega) (by omega) (by omega) (by omega) (by omega) (by omega) (by intro r hr; simp at hr) (by intro r hr; simp at hr) trivial (by omega))
              have Z2 : MoZ iv2 ia2 la2 (sl_jl [] (sl_tk (t_ls u) g')) := ⟨v1.trans z1.1, fun k q hq => by rw [j1 11 (by omega) (by omega) (by omega), j2 12 (by omega)]; exact z1.2 k q hq⟩
              refine ev_istore dMo_box_76 (by decide) ?_
              refine ev_aload_n dMo_box_78 rfl rfl ?_
              refine ev_iload dMo_box_79 rfl ?_
              refine cz_Mo_putDown dMo_box_81 lMo_131 mm.2.1.1 (Nat.le_of_ble_eq_true rfl) (Mo_putDown_ok hlt hL mm Z2 (fun h3 ia3 la3 mp p2 p3 p4 p5 => ?_))
              have E := mo_into_end (R := sl_rs (t_ls u) g') T2 (show ¬ ts.length = j by omega) (by simp) (by rw [List.getElem?_append_left hj]; exact y2) p2 p3 p4 p5 hL ot
              refine ev_aload_n dMo_box_84 rfl rfl ?_
              refine ev_iload_n dMo_box_85 rfl rfl ?_
              refine ev_lload_n dMo_box_86 rfl rfl ?_
              refine cz_Mo_takeOut dMo_box_87 lMo_135 mp.2.1.1 (Nat.le_of_ble_eq_true rfl) (Mo_takeOut_ok (by omega) l10 p.2.2.2.2.2.2.2.2.1 (by omega) mp E.1.2.1 E.1.2.2.1 (fun h4 ia4 la4 mt t2 t3 t4 t5 => ?_))
              have E2 := E.2 ia4 la4 t2 t3 t4 t5 (Nat.le_trans (sl_rs_len _ _) l10) ou
              rw [set_end _ _ _ _ _ hj] at E2
              refine ev_aload_n dMo_box_90 rfl rfl ?_
              refine ev_get dMo_box_91 fMo_30 mt.2.1.1 rfl ?_
              refine ev_iload dMo_box_94 rfl ?_
              refine ev_aload_n dMo_box_96 rfl rfl ?_
              refine ev_get dMo_box_97 fMo_30 mt.2.1.1 rfl ?_
              refine ev_iload_n dMo_box_100 rfl rfl ?_
              refine ev_iald dMo_box_101 mt.2.1.g7 rfl rfl (by omega) (by decide) ?_
              refine ev_top (E2.2.1) ?_
              refine ev_iast dMo_box_102 mt.2.1.g7 rfl rfl (by omega) (by decide) ?_
              refine mo_ist (j := 7) (t := 0) (N := 70) mt (by decide) (fun h102 m102 => ?_)
              refine ev_iload dMo_box_103 rfl ?_
              refine ev_iret dMo_box_105 rfl rfl ?_
              exact hk _ _ _ _ m102 E2.2.2 (r1.rest.tr (m1.tr (p5.rest.tr (t5.rest.tr (rest_i (by omega))))))
            · skip
              refine ev_iconst (v := -1) dMo_box_65 (by decide) ?_
              refine ev_iret dMo_box_66 rfl rfl ?_
              exact ref2 _ _ _ _ mz r1 (fun z => absurd (show nI ts.length = nI 70 by rw [← e0]; exact c62) (fun q => absurd ((nI_eq (by omega) (by decide)).mp q) (by have := z.2.2.2.2; omega)))
          · refine ev_if_ne (tgt := 40) dMo_box_35 (by decide) (fun q9 => absurd (by decide) q9) (fun _ => ?_)
            refine ev_iconst (v := -1) dMo_box_38 (by decide) ?_
            refine ev_iret dMo_box_39 rfl rfl ?_
            exact ref2 _ _ _ _ hM mo_zr.rf (fun z => g1 z.2.2.2.1)
  · refine ev_if_eq (tgt := 38) dMo_box_5 (by decide) (fun _ => ?_) (fun q9 => absurd (by decide) q9)
    refine ev_iconst (v := -1) dMo_box_38 (by decide) ?_
    refine ev_iret dMo_box_39 rfl rfl ?_
    exact refuse _ _ _ _ hM mo_zr.rf (box_no (fun q h2 z => z.1 (q3 q.1 q.2 h2)))
end MOI
