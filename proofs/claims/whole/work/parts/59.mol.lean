/-! the reference: laying -/
def MoZ (iv : Nat → Int32) (ia : Nat → Nat → Int32) (la : Nat → Nat → Int64) (zs : sL) : Prop := iv 1 = nI zs.length ∧ (∀ k p, zs[k]? = some p → ia 11 k = nI p.1 ∧ la 12 k = lN p.2)
def mo_zr (iv iv' : Nat → Int32) (ia ia' : Nat → Nat → Int32) (la la' : Nat → Nat → Int64) : Prop := (∀ j, j ≠ 1 → iv' j = iv j) ∧ (∀ j, j ≠ 11 → ia' j = ia j) ∧ (∀ j, j ≠ 12 → la' j = la j)
section MOL
variable {G : xG} {l : Launch} {d bc bs : Nat} {h h0 : xH} {n : Nat} {P : Option Value → xH → Nat → Prop} {ad tg : Nat → Nat} {T : Nat} {iv iv' iv2 : Nat → Int32} {ia ia' ia2 : Nat → Nat → Int32} {la la' la2 : Nat → Nat → Int64} {ts : List sT}
theorem mo_zr.rf : mo_zr iv iv ia ia la la := ⟨fun _ _ => rfl, fun _ _ => rfl, fun _ _ => rfl⟩
theorem mo_zr.tr (a : mo_zr iv iv' ia ia' la la') (b : mo_zr iv' iv2 ia' ia2 la' la2) : mo_zr iv iv2 ia ia2 la la2 := ⟨fun j hj => (b.1 j hj).trans (a.1 j hj), fun j hj => (b.2.1 j hj).trans (a.2.1 j hj), fun j hj => (b.2.2 j hj).trans (a.2.2 j hj)⟩
theorem mo_zr.rest (a : mo_zr iv iv' ia ia' la la') : mo_rest iv iv' ia ia' la la' := ⟨fun j hj => ⟨a.2.1 j (by omega), a.2.2 j (by omega)⟩, fun j hj => a.1 j (by omega)⟩
theorem MoT.eq (hT : MoT iv ia la ts) (z1 : iv' 0 = iv 0) (z2 : ∀ j, 1 ≤ j → j ≤ 10 → ia' j = ia j) (z3 : ∀ j, 1 ≤ j → j ≤ 10 → la' j = la j) : MoT iv' ia' la' ts := by
  unfold MoT mo_t
  rw [z1, z2 1 (by omega) (by omega), z2 2 (by omega) (by omega), z2 3 (by omega) (by omega), z2 6 (by omega) (by omega), z2 7 (by omega) (by omega), z2 8 (by omega) (by omega), z2 9 (by omega) (by omega), z3 4 (by omega) (by omega), z3 5 (by omega) (by omega), z3 10 (by omega) (by omega)]
  exact hT
theorem MoT.zr (hT : MoT iv ia la ts) (z : mo_zr iv iv' ia ia' la la') : MoT iv' ia' la' ts := hT.eq (z.1 0 (by omega)) (fun j _ _ => z.2.1 j (by omega)) (fun j _ _ => z.2.2 j (by omega))
set_option maxRecDepth 20000 in
set_option maxHeartbeats 1000000 in
theorem Mo_lay_ok {a x : Nat} {zs : sL} (ha : a < 100) (hb : sl_hb zs) (hlt : zs.length < 165) (hM : MoK h0 h ad tg T iv ia la) (hZ : MoZ iv ia la zs) (hk : ∀ h' iv' ia' la', MoK h0 h' ad tg T iv' ia' la' → MoZ iv' ia' la' (sl_jn zs a x) → mo_zr iv iv' ia ia' la la' → P none h' n) : ev_Run G l d bc bs mMo_lay 0 [some (.ref (ad 1000)), some (.int (nI a)), some (.long (lN x)), none] [] h n P := by
  obtain ⟨z1, z2⟩ := hZ
  have push : sl_jn zs a x = zs ++ [(a, x)] → ev_Run G l d bc bs mMo_lay 38 [some (.ref (ad 1000)), some (.int (nI a)), some (.long (lN x)), none] [] h n P := by
    intro he
    refine ev_aload_n dMo_lay_38 rfl rfl ?_
    refine ev_get dMo_lay_39 fMo_42 hM.2.1.1 rfl ?_
    refine ev_aload_n dMo_lay_42 rfl rfl ?_
    refine ev_get dMo_lay_43 fMo_105 hM.2.1.1 rfl ?_
    refine ev_iload_n dMo_lay_46 rfl rfl ?_
    refine ev_iast dMo_lay_47 hM.2.1.g11 rfl (z1) (by omega) (by decide) ?_
    refine mo_ist (j := 11) (t := 0) (N := 170) hM (by decide) (fun h47 m47 => ?_)
    refine ev_aload_n dMo_lay_48 rfl rfl ?_
    refine ev_get dMo_lay_49 fMo_45 m47.2.1.1 rfl ?_
    refine ev_aload_n dMo_lay_52 rfl rfl ?_
    refine ev_get dMo_lay_53 fMo_105 m47.2.1.1 rfl ?_
    refine ev_lload_n dMo_lay_56 rfl rfl ?_
    refine ev_last dMo_lay_57 m47.2.1.g12 rfl (z1) (by omega) (by decide) ?_
    refine mo_lst (j := 12) (N := 170) m47 (by decide) (fun h57 m57 => ?_)
    refine ev_aload_n dMo_lay_58 rfl rfl ?_
    refine ev_dup dMo_lay_59 rfl ?_
    refine ev_get dMo_lay_60 fMo_105 m57.2.1.1 rfl ?_
    refine ev_iconst (v := nI 1) dMo_lay_63 (by decide) ?_
    refine ev_iadd dMo_lay_64 ?_
    refine ev_top (y := nI (zs.length + 1)) (by rw [z1]; exact nI_add _ _) ?_
    refine ev_put dMo_lay_65 fMo_105 tMo_11 m57.2.1.1 rfl rfl (Nat.le_of_ble_eq_true rfl) ?_
    refine mo_put m57 Mo_c1 (fun h65 m65 => ?_)
    refine ev_vret dMo_lay_68 rfl ?_
    refine hk _ _ _ _ m65 ⟨?_, fun k p hp => ?_⟩ ⟨fun j hj => upv_n hj, fun j hj => upv_n hj, fun j hj => upv_n hj⟩
    · rw [he]; exact upv_s.trans (by simp)
    · rw [he] at hp; show upd (ia 11) zs.length (nI a) k = _ ∧ vp_updL (la 12) zs.length (lN x) k = _; rcases Nat.lt_or_ge k zs.length with q | q; (rw [List.getElem?_append_left q] at hp; rw [pk_un (by omega), pk_uLn (by omega)]; exact z2 k p hp); (have hk1 := (List.getElem?_eq_some_iff.mp hp).1; have hk2 : k = zs.length := (by simp at hk1; omega); subst hk2; simp at hp; subst hp; exact ⟨pk_us, pk_uLs⟩)
  rcases sl_last zs with rfl | ⟨T0, q, rfl⟩
  · refine ev_aload_n dMo_lay_0 rfl rfl ?_
    refine ev_get dMo_lay_1 fMo_105 hM.2.1.1 rfl ?_
    refine ev_if_le (tgt := 38) dMo_lay_4 (by decide) (fun c4 => ?_) (fun c4 => absurd ((show iv 1 ≤ 0 by rw [z1]; decide)) c4)
    exact push (sl_jn_nil a x)
  · have hq : (T0 ++ [q])[T0.length]? = some q := by simp
    have hq1 := hb q (List.mem_of_getElem? hq)
    have hl2 : (T0 ++ [q]).length = T0.length + 1 := by simp
    rw [hl2] at z1 hlt
    refine ev_aload_n dMo_lay_0 rfl rfl ?_
    refine ev_get dMo_lay_1 fMo_105 hM.2.1.1 rfl ?_
    refine ev_if_le (tgt := 38) dMo_lay_4 (by decide) (fun c4 => False.elim (absurd (show nI (T0.length + 1) ≤ nI 0 by rw [← z1]; exact c4) (fun z => absurd ((nI_leI (by omega) (by decide)).mp z) (by omega)))) (fun c4 => ?_)
    refine ev_aload_n dMo_lay_7 rfl rfl ?_
    refine ev_get dMo_lay_8 fMo_42 hM.2.1.1 rfl ?_
    refine ev_aload_n dMo_lay_11 rfl rfl ?_
    refine ev_get dMo_lay_12 fMo_105 hM.2.1.1 rfl ?_
    refine ev_iconst (v := nI 1) dMo_lay_15 (by decide) ?_
    refine ev_isub dMo_lay_16 ?_
    refine ev_top (y := nI T0.length) (by rw [z1, pk_sub (by omega), Nat.add_sub_cancel]) ?_
    refine ev_iald dMo_lay_17 hM.2.1.g11 rfl rfl (by omega) (by decide) ?_
    refine ev_top ((z2 T0.length q hq).1) ?_
    refine ev_iload_n dMo_lay_18 rfl rfl ?_
    refine ev_icmp_ne (tgt := 38) dMo_lay_19 (by decide) (fun c19 => ?_) (fun c19 => ?_)
    · skip
      exact push (sl_jn_diff (fun z => c19 (by rw [z])))
    · have e1 : q.1 = a := (nI_eq (by omega) (by omega)).mp c19
      refine ev_aload_n dMo_lay_22 rfl rfl ?_
      refine ev_get dMo_lay_23 fMo_45 hM.2.1.1 rfl ?_
      refine ev_aload_n dMo_lay_26 rfl rfl ?_
      refine ev_get dMo_lay_27 fMo_105 hM.2.1.1 rfl ?_
      refine ev_iconst (v := nI 1) dMo_lay_30 (by decide) ?_
      refine ev_isub dMo_lay_31 ?_
      refine ev_top (y := nI T0.length) (by rw [z1, pk_sub (by omega), Nat.add_sub_cancel]) ?_
      refine ev_dup2_11 dMo_lay_32 rfl rfl ?_
      refine ev_lald dMo_lay_33 hM.2.1.g12 rfl rfl (by omega) (by decide) ?_
      refine ev_topl ((z2 T0.length q hq).2) ?_
      refine ev_lload_n dMo_lay_34 rfl rfl ?_
      refine ev_ladd dMo_lay_35 ?_
      refine ev_topl (lN_add _ _) ?_
      refine ev_last dMo_lay_36 hM.2.1.g12 rfl rfl (by omega) (by decide) ?_
      refine mo_lst (j := 12) (N := 170) hM (by decide) (fun h36 m36 => ?_)
      refine ev_vret dMo_lay_37 rfl ?_
      refine hk _ _ _ _ m36 ⟨?_, fun k p hp => ?_⟩ ⟨fun j hj => rfl, fun j hj => rfl, fun j hj => upv_n hj⟩
      · rw [sl_jn_same e1]; exact z1.trans (by simp)
      · rw [sl_jn_same e1] at hp; show ia 11 k = _ ∧ vp_updL (la 12) T0.length (lN (q.2 + x)) k = _; rcases Nat.lt_or_ge k T0.length with r | r; (rw [List.getElem?_append_left r] at hp; rw [pk_uLn (by omega)]; exact z2 k p (by rw [List.getElem?_append_left r]; exact hp)); (have hk1 := (List.getElem?_eq_some_iff.mp hp).1; have hk2 : k = T0.length := (by simp at hk1; omega); subst hk2; simp at hp; subst hp; exact ⟨(z2 _ q hq).1.trans (by rw [e1]), pk_uLs⟩)
set_option maxRecDepth 20000 in
set_option maxHeartbeats 2000000 in
theorem Mo_layBy_ok {to : Int32} {tl : sL} {j g0 : Nat} {u : sT} (hM : MoK h0 h ad tg T iv ia la) (hT : MoT iv ia la ts) (hto : (to = -1 ∧ tl = []) ∨ ∃ i t, ts[i]? = some t ∧ to = nI i ∧ tl = t_ls t) (hj : ts[j]? = some u) (hg : g0 < 2 ^ 62) (hk : ∀ h' iv' ia' la', MoK h0 h' ad tg T iv' ia' la' → MoZ iv' ia' la' (sl_jl tl (sl_tk (t_ls u) g0)) → mo_zr iv iv' ia ia' la la' → P none h' n) : ev_Run G l (d + 1) bc bs mMo_layBy 0 [some (.ref (ad 1000)), some (.int to), some (.int (nI j)), some (.long (lN g0)), none, none, none, none, none, none] [] h n P := by
  have h70 := hT.2.1
  have hjl : j < ts.length := (List.getElem?_eq_some_iff.mp hj).1
  obtain ⟨-, u8, uo⟩ := hT.2.2.1 j u hj
  obtain ⟨-, -, -, -, -, -, -, ub, ug, -, -⟩ := id uo
  have tb : sl_hb tl ∧ tl.length ≤ 80 := by
    rcases hto with ⟨-, rfl⟩ | ⟨i, t, hi, -, rfl⟩
    · exact ⟨fun p hp => (by cases hp), by simp⟩
    · obtain ⟨-, t8, o⟩ := hT.2.2.1 i t hi
      exact ⟨o.2.2.2.2.2.2.2.1, t8⟩
  have loop : ∀ e k x Z h' iv' ia' la' w, k + e = (t_ls u).length → x < 2 ^ 62 → MoK h0 h' ad tg T iv' ia' la' → MoZ iv' ia' la' Z → sl_hb Z → Z.length ≤ 80 + k → mo_zr iv iv' ia ia' la la' → sl_jl Z (sl_tk ((t_ls u).drop k) x) = sl_jl tl (sl_tk (t_ls u) g0) → ev_Run G l (d + 1) bc bs mMo_layBy 64 [some (.ref (ad 1000)), some (.int to), some (.int (nI j)), some (.long (lN g0)), none, some (.long (lN x)), none, some (.int (nI k)), w, none] [] h' n P := by
    intro e
    induction e with
    | zero =>
      intro k x Z h' iv' ia' la' w hk' hx hM' hZ hZb hZl hr he
      obtain ⟨⟨-, k2, -⟩, -⟩ := (hT.zr hr).2.2.1 j u hj
      rw [List.drop_eq_nil_of_le (by omega)] at he
      have he : Z = sl_jl tl (sl_tk (t_ls u) g0) := by simpa [sl_tk, sl_jl] using he
      subst he
      refine ev_iload dMo_layBy_64 rfl ?_
      refine ev_aload_n dMo_layBy_66 rfl rfl ?_
      refine ev_get dMo_layBy_67 fMo_13 hM'.2.1.1 rfl ?_
      refine ev_iload_n dMo_layBy_70 rfl rfl ?_
      refine ev_iald dMo_layBy_71 hM'.2.1.g2 rfl rfl (by omega) (by decide) ?_
      refine ev_top (k2) ?_
      refine ev_icmp_ge (tgt := 150) dMo_layBy_72 (by decide) (fun c72 => ?_) (fun c72 => absurd (nI_le (by omega) (by omega)) c72)
      refine ev_vret dMo_layBy_150 rfl ?_
      exact hk _ _ _ _ hM' hZ hr
    | succ e ih =>
      intro k x Z h' iv' ia' la' w hk' hx hM' hZ hZb hZl hr he
      obtain ⟨p, hp⟩ := sl_get (ls := t_ls u) (j := k) (by omega)
      have hp1 := ub p (List.mem_of_getElem? hp)
      have hp2 := ug p (List.mem_of_getElem? hp)
      obtain ⟨⟨-, k2, k3, -⟩, -⟩ := (hT.zr hr).2.2.1 j u hj
      rw [sl_drop hp] at he
      rcases Nat.eq_zero_or_pos x with rfl | hx0
      · have he : Z = sl_jl tl (sl_tk (t_ls u) g0) := by simpa [sl_tk, sl_jl] using he
        subst he
        refine ev_iload dMo_layBy_64 rfl ?_
        refine ev_aload_n dMo_layBy_66 rfl rfl ?_
        refine ev_get dMo_layBy_67 fMo_13 hM'.2.1.1 rfl ?_
        refine ev_iload_n dMo_layBy_70 rfl rfl ?_
        refine ev_iald dMo_layBy_71 hM'.2.1.g2 rfl rfl (by omega) (by decide) ?_
        refine ev_top (k2) ?_
        refine ev_icmp_ge (tgt := 150) dMo_layBy_72 (by decide) (fun c72 => False.elim (absurd c72 (nI_ge (by omega) (by omega)))) (fun c72 => ?_)
        refine ev_lload dMo_layBy_75 rfl ?_
        refine ev_lconst (v := lN 0) dMo_layBy_77 (by decide) ?_
        refine ev_lcmp_le (tgt := 150) dMo_layBy_78 dMo_layBy_79 (by decide) (fun c78 => ?_) (fun c78 => absurd (Int64.le_refl _) c78)
        refine ev_vret dMo_layBy_150 rfl ?_
        exact hk _ _ _ _ hM' hZ hr
      · have he2 : sl_jl (sl_jn Z p.1 (min x p.2)) (sl_tk ((t_ls u).drop (k + 1)) (x - min x p.2)) = sl_jl tl (sl_tk (t_ls u) g0) := by
          rw [← he]
          rcases Nat.lt_or_ge p.2 x with hxp | hxp
          · rw [Nat.min_eq_right (by omega)]
            simp only [sl_tk, if_neg (show ¬ x = 0 by omega), if_pos hxp, sl_jl, List.foldl_cons]
          · rw [Nat.min_eq_left hxp, Nat.sub_self, sl_tk_0]
            simp only [sl_tk, if_neg (show ¬ x = 0 by omega), if_neg (show ¬ p.2 < x by omega), sl_jl, List.foldl_cons]
        refine ev_iload dMo_layBy_64 rfl ?_
        refine ev_aload_n dMo_layBy_66 rfl rfl ?_
        refine ev_get dMo_layBy_67 fMo_13 hM'.2.1.1 rfl ?_
        refine ev_iload_n dMo_layBy_70 rfl rfl ?_
        refine ev_iald dMo_layBy_71 hM'.2.1.g2 rfl rfl (by omega) (by decide) ?_
        refine ev_top (k2) ?_
        refine ev_icmp_ge (tgt := 150) dMo_layBy_72 (by decide) (fun c72 => False.elim (absurd c72 (nI_ge (by omega) (by omega)))) (fun c72 => ?_)
        refine ev_lload dMo_layBy_75 rfl ?_
        refine ev_lconst (v := lN 0) dMo_layBy_77 (by decide) ?_
        refine ev_lcmp_le (tgt := 150) dMo_layBy_78 dMo_layBy_79 (by decide) (fun c78 => False.elim (absurd c78 (lN_pos hx0 (by omega)))) (fun c78 => ?_)
        refine ev_aload_n dMo_layBy_82 rfl rfl ?_
        refine ev_get dMo_layBy_83 fMo_19 hM'.2.1.1 rfl ?_
        refine ev_bipush (v := nI 81) dMo_layBy_86 (by decide) ?_
        refine ev_iload_n dMo_layBy_88 rfl rfl ?_
        refine ev_imul dMo_layBy_89 ?_
        refine ev_iload dMo_layBy_90 rfl ?_
        refine ev_iadd dMo_layBy_92 ?_
        refine ev_lald dMo_layBy_93 hM'.2.1.g4 rfl (mo_ix _ _) (by omega) (by decide) ?_
        refine ev_topl ((k3 k p hp).2) ?_
        refine ev_lload dMo_layBy_94 rfl ?_
        refine ev_lcmp_ge (tgt := 115) dMo_layBy_96 dMo_layBy_97 (by decide) (fun c96 => ?_) (fun c96 => ?_)
        · rw [pk_lLE (by omega) (by omega)] at c96
          rw [Nat.min_eq_left c96] at he2
          refine ev_lload dMo_layBy_115 rfl ?_
          refine ev_lstore dMo_layBy_117 (by decide) ?_
          refine ev_aload_n dMo_layBy_119 rfl rfl ?_
          refine ev_aload_n dMo_layBy_120 rfl rfl ?_
          refine ev_get dMo_layBy_121 fMo_16 hM'.2.1.1 rfl ?_
          refine ev_bipush (v := nI 81) dMo_layBy_124 (by decide) ?_
          refine ev_iload_n dMo_layBy_126 rfl rfl ?_
          refine ev_imul dMo_layBy_127 ?_
          refine ev_iload dMo_layBy_128 rfl ?_
          refine ev_iadd dMo_layBy_130 ?_
          refine ev_iald dMo_layBy_131 hM'.2.1.g3 rfl (mo_ix _ _) (by omega) (by decide) ?_
          refine ev_top ((k3 k p hp).1) ?_
          refine ev_lload dMo_layBy_132 rfl ?_
          refine cz_Mo_lay dMo_layBy_134 lMo_108 hM'.2.1.1 (Nat.le_of_ble_eq_true rfl) (Mo_lay_ok hp1 hZb (by omega) hM' hZ (fun h2 iv2 ia2 la2 mz z2 r2 => ?_))
          refine ev_lload dMo_layBy_137 rfl ?_
          refine ev_lload dMo_layBy_139 rfl ?_
          refine ev_lsub dMo_layBy_141 ?_
          refine ev_topl (lN_sub (by omega)) ?_
          refine ev_lstore dMo_layBy_142 (by decide) ?_
          refine ev_iinc dMo_layBy_144 rfl (ev_inc1 _) (by decide) ?_
          refine ev_goto (tgt := 64) dMo_layBy_147 (by decide) ?_
          exact ih (k + 1) _ _ _ _ _ _ _ (by omega) (by omega) mz z2 (sl_hb_jn hZb hp1) (Nat.le_trans (sl_jn_len Z p.1 _).2 (by omega)) (hr.tr r2) he2
        · rw [pk_lLE (by omega) (by omega)] at c96
          rw [Nat.min_eq_right (by omega)] at he2
          refine ev_aload_n dMo_layBy_100 rfl rfl ?_
          refine ev_get dMo_layBy_101 fMo_19 hM'.2.1.1 rfl ?_
          refine ev_bipush (v := nI 81) dMo_layBy_104 (by decide) ?_
          refine ev_iload_n dMo_layBy_106 rfl rfl ?_
          refine ev_imul dMo_layBy_107 ?_
          refine ev_iload dMo_layBy_108 rfl ?_
          refine ev_iadd dMo_layBy_110 ?_
          refine ev_lald dMo_layBy_111 hM'.2.1.g4 rfl (mo_ix _ _) (by omega) (by decide) ?_
          refine ev_topl ((k3 k p hp).2) ?_
          refine ev_goto (tgt := 117) dMo_layBy_112 (by decide) ?_
          refine ev_lstore dMo_layBy_117 (by decide) ?_
          refine ev_aload_n dMo_layBy_119 rfl rfl ?_
          refine ev_aload_n dMo_layBy_120 rfl rfl ?_
          refine ev_get dMo_layBy_121 fMo_16 hM'.2.1.1 rfl ?_
          refine ev_bipush (v := nI 81) dMo_layBy_124 (by decide) ?_
          refine ev_iload_n dMo_layBy_126 rfl rfl ?_
          refine ev_imul dMo_layBy_127 ?_
          refine ev_iload dMo_layBy_128 rfl ?_
          refine ev_iadd dMo_layBy_130 ?_
          refine ev_iald dMo_layBy_131 hM'.2.1.g3 rfl (mo_ix _ _) (by omega) (by decide) ?_
          refine ev_top ((k3 k p hp).1) ?_
          refine ev_lload dMo_layBy_132 rfl ?_
          refine cz_Mo_lay dMo_layBy_134 lMo_108 hM'.2.1.1 (Nat.le_of_ble_eq_true rfl) (Mo_lay_ok hp1 hZb (by omega) hM' hZ (fun h2 iv2 ia2 la2 mz z2 r2 => ?_))
          refine ev_lload dMo_layBy_137 rfl ?_
          refine ev_lload dMo_layBy_139 rfl ?_
          refine ev_lsub dMo_layBy_141 ?_
          refine ev_topl (lN_sub (by omega)) ?_
          refine ev_lstore dMo_layBy_142 (by decide) ?_
          refine ev_iinc dMo_layBy_144 rfl (ev_inc1 _) (by decide) ?_
          refine ev_goto (tgt := 64) dMo_layBy_147 (by decide) ?_
          exact ih (k + 1) _ _ _ _ _ _ _ (by omega) (by omega) mz z2 (sl_hb_jn hZb hp1) (Nat.le_trans (sl_jn_len Z p.1 _).2 (by omega)) (hr.tr r2) he2
  have mid : ∀ h' iv' ia' la' w, MoK h0 h' ad tg T iv' ia' la' → MoZ iv' ia' la' tl → mo_zr iv iv' ia ia' la la' → ev_Run G l (d + 1) bc bs mMo_layBy 58 [some (.ref (ad 1000)), some (.int to), some (.int (nI j)), some (.long (lN g0)), none, some (.int w), none, none, none, none] [] h' n P := by
    intro h' iv' ia' la' w hM' hZ hr
    refine ev_lload_n dMo_layBy_58 rfl rfl ?_
    refine ev_lstore dMo_layBy_59 (by decide) ?_
    refine ev_iconst (v := nI 0) dMo_layBy_61 (by decide) ?_
    refine ev_istore dMo_layBy_62 (by decide) ?_
    exact loop (t_ls u).length 0 g0 tl _ _ _ _ _ (by omega) hg hM' hZ tb.1 (by have := tb.2; omega) hr rfl
  rcases hto with ⟨rfl, rfl⟩ | ⟨i, t, hi, rfl, rfl⟩
  · refine ev_aload_n dMo_layBy_0 rfl rfl ?_
    refine ev_iconst (v := nI 0) dMo_layBy_1 (by decide) ?_
    refine ev_put dMo_layBy_2 fMo_105 tMo_11 hM.2.1.1 rfl rfl (Nat.le_of_ble_eq_true rfl) ?_
    refine mo_put hM Mo_c1 (fun h2 m2 => ?_)
    refine ev_iconst (v := nI 0) dMo_layBy_5 (by decide) ?_
    refine ev_istore dMo_layBy_6 (by decide) ?_
    refine ev_iload_n dMo_layBy_8 rfl rfl ?_
    refine ev_iconst (v := -1) dMo_layBy_9 (by decide) ?_
    refine ev_icmp_eq (tgt := 58) dMo_layBy_10 (by decide) (fun c10 => ?_) (fun c10 => absurd (rfl) c10)
    exact mid _ _ _ _ _ m2 ⟨upv_s, fun k p hp => by simp at hp⟩ ⟨fun j hj => upv_n hj, fun _ _ => rfl, fun _ _ => rfl⟩
  · have hil : i < ts.length := (List.getElem?_eq_some_iff.mp hi).1
    obtain ⟨-, t8, o⟩ := hT.2.2.1 i t hi
    have oad := o.2.2.2.2.2.2.2.2.2.1
    have loop1 : ∀ e k h' iv' ia' la', k + e = (t_ls t).length → MoK h0 h' ad tg T iv' ia' la' → MoZ iv' ia' la' ((t_ls t).take k) → mo_zr iv iv' ia ia' la la' → ev_Run G l (d + 1) bc bs mMo_layBy 8 [some (.ref (ad 1000)), some (.int (nI i)), some (.int (nI j)), some (.long (lN g0)), none, some (.int (nI k)), none, none, none, none] [] h' n P := by
      intro e
      induction e with
      | zero =>
        intro k h' iv' ia' la' hke hM' hZ hr
        obtain ⟨⟨-, k2, -⟩, -⟩ := (hT.zr hr).2.2.1 i t hi
        rw [List.take_of_length_le (by omega)] at hZ
        refine ev_iload_n dMo_layBy_8 rfl rfl ?_
        refine ev_iconst (v := -1) dMo_layBy_9 (by decide) ?_
        refine ev_icmp_eq (tgt := 58) dMo_layBy_10 (by decide) (fun c10 => False.elim (absurd c10 (nI_ne1 (by omega)))) (fun c10 => ?_)
        refine ev_iload dMo_layBy_13 rfl ?_
        refine ev_aload_n dMo_layBy_15 rfl rfl ?_
        refine ev_get dMo_layBy_16 fMo_13 hM'.2.1.1 rfl ?_
        refine ev_iload_n dMo_layBy_19 rfl rfl ?_
        refine ev_iald dMo_layBy_20 hM'.2.1.g2 rfl rfl (by omega) (by decide) ?_
        refine ev_top (k2) ?_
        refine ev_icmp_ge (tgt := 58) dMo_layBy_21 (by decide) (fun c21 => ?_) (fun c21 => absurd (nI_le (by omega) (by omega)) c21)
        exact mid _ _ _ _ _ hM' hZ hr
      | succ e ih =>
        intro k h' iv' ia' la' hke hM' hZ hr
        obtain ⟨⟨-, k2, k3, -⟩, -⟩ := (hT.zr hr).2.2.1 i t hi
        obtain ⟨p, hp⟩ := sl_get (ls := t_ls t) (j := k) (by omega)
        have hp1 := tb.1 p (List.mem_of_getElem? hp)
        refine ev_iload_n dMo_layBy_8 rfl rfl ?_
        refine ev_iconst (v := -1) dMo_layBy_9 (by decide) ?_
        refine ev_icmp_eq (tgt := 58) dMo_layBy_10 (by decide) (fun c10 => False.elim (absurd c10 (nI_ne1 (by omega)))) (fun c10 => ?_)
        refine ev_iload dMo_layBy_13 rfl ?_
        refine ev_aload_n dMo_layBy_15 rfl rfl ?_
        refine ev_get dMo_layBy_16 fMo_13 hM'.2.1.1 rfl ?_
        refine ev_iload_n dMo_layBy_19 rfl rfl ?_
        refine ev_iald dMo_layBy_20 hM'.2.1.g2 rfl rfl (by omega) (by decide) ?_
        refine ev_top (k2) ?_
        refine ev_icmp_ge (tgt := 58) dMo_layBy_21 (by decide) (fun c21 => False.elim (absurd c21 (nI_ge (by omega) (by omega)))) (fun c21 => ?_)
        refine ev_aload_n dMo_layBy_24 rfl rfl ?_
        refine ev_aload_n dMo_layBy_25 rfl rfl ?_
        refine ev_get dMo_layBy_26 fMo_16 hM'.2.1.1 rfl ?_
        refine ev_bipush (v := nI 81) dMo_layBy_29 (by decide) ?_
        refine ev_iload_n dMo_layBy_31 rfl rfl ?_
        refine ev_imul dMo_layBy_32 ?_
        refine ev_iload dMo_layBy_33 rfl ?_
        refine ev_iadd dMo_layBy_35 ?_
        refine ev_iald dMo_layBy_36 hM'.2.1.g3 rfl (mo_ix _ _) (by omega) (by decide) ?_
        refine ev_top ((k3 k p hp).1) ?_
        refine ev_aload_n dMo_layBy_37 rfl rfl ?_
        refine ev_get dMo_layBy_38 fMo_19 hM'.2.1.1 rfl ?_
        refine ev_bipush (v := nI 81) dMo_layBy_41 (by decide) ?_
        refine ev_iload_n dMo_layBy_43 rfl rfl ?_
        refine ev_imul dMo_layBy_44 ?_
        refine ev_iload dMo_layBy_45 rfl ?_
        refine ev_iadd dMo_layBy_47 ?_
        refine ev_lald dMo_layBy_48 hM'.2.1.g4 rfl (mo_ix _ _) (by omega) (by decide) ?_
        refine ev_topl ((k3 k p hp).2) ?_
        refine cz_Mo_lay dMo_layBy_49 lMo_108 hM'.2.1.1 (Nat.le_of_ble_eq_true rfl) (Mo_lay_ok hp1 (fun q hq => tb.1 q (List.mem_of_mem_take hq)) (by simp; omega) hM' hZ (fun h2 iv2 ia2 la2 mz z2 r2 => ?_))
        refine ev_iinc dMo_layBy_52 rfl (ev_inc1 _) (by decide) ?_
        refine ev_goto (tgt := 8) dMo_layBy_55 (by decide) ?_
        exact ih (k + 1) _ _ _ _ (by omega) mz (by rw [sl_jn_take oad hp] at z2; exact z2) (hr.tr r2)
    refine ev_aload_n dMo_layBy_0 rfl rfl ?_
    refine ev_iconst (v := nI 0) dMo_layBy_1 (by decide) ?_
    refine ev_put dMo_layBy_2 fMo_105 tMo_11 hM.2.1.1 rfl rfl (Nat.le_of_ble_eq_true rfl) ?_
    refine mo_put hM Mo_c1 (fun h2 m2 => ?_)
    refine ev_iconst (v := nI 0) dMo_layBy_5 (by decide) ?_
    refine ev_istore dMo_layBy_6 (by decide) ?_
    exact loop1 (t_ls t).length 0 _ _ _ _ (by omega) m2 ⟨upv_s, fun k p hp => by simp at hp⟩ ⟨fun j hj => upv_n hj, fun _ _ => rfl, fun _ _ => rfl⟩
end MOL
