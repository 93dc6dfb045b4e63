theorem ndg_le {v m : Nat} (hm : 1 ≤ m) (hm2 : m ≤ 18) (hv : v < 10 ^ m) : ndg 17 v ≤ m := by
  have h18 : 10 ^ m ≤ 10 ^ 18 := Nat.pow_le_pow_right (by decide) hm2
  obtain ⟨a, b, c, e⟩ := ndg_spec 17 v (by omega)
  rcases Nat.lt_or_ge m (ndg 17 v) with q | q
  · have h1 := e (by omega)
    have : 10 ^ m ≤ 10 ^ (ndg 17 v - 1) := Nat.pow_le_pow_right (by decide) (by omega)
    omega
  · exact q
def pp1 (p : Nat × Nat) : List Int32 := [nI 32] ++ dgs (ndg 17 p.1) p.1 ++ [nI 58] ++ dgs (ndg 17 p.2) p.2
def pp0 (c b : Nat) : List Int32 := dgs (ndg 17 c) c ++ [nI 47] ++ dgs (ndg 17 b) b
theorem pp1_len {p : Nat × Nat} (h1 : p.1 < 100) (h2 : p.2 < 10000000000) : (pp1 p).length ≤ 14 := by
  have := ndg_le (v := p.1) (m := 2) (by omega) (by omega) (by simpa using h1)
  have := ndg_le (v := p.2) (m := 10) (by omega) (by omega) (by simpa using h2)
  simp [pp1, dgs_len]; omega
theorem pp_len {ls : sL} (h1 : sl_hb ls) (h2 : sl_gb ls) : (ls.flatMap pp1).length ≤ 14 * ls.length := by
  induction ls with
  | nil => simp
  | cons p t ih =>
    have a := ih (fun q hq => h1 q (List.mem_cons_of_mem _ hq)) (fun q hq => h2 q (List.mem_cons_of_mem _ hq))
    have b := pp1_len (h1 p List.mem_cons_self) (h2 p List.mem_cons_self).2
    rw [List.flatMap_cons, List.length_append, List.length_cons]
    omega
theorem pp_take {ls : sL} {j : Nat} {p : Nat × Nat} (h : ls[j]? = some p) : (ls.take (j + 1)).flatMap pp1 = (ls.take j).flatMap pp1 ++ pp1 p := by
  rw [List.take_add_one, h]; simp
def paper_s (ts : List sT) (b c i : Int32) : Int32 := match fnd ts b with
  | none => -1
  | some p => if t_kind p.2 = 3 ∧ (¬ c < 0 ∧ c ≤ nI 99) then by_at (pp0 c.toNatClampNeg p.1 ++ (t_ls p.2).flatMap pp1) i else -1
section PP
variable {G : xG} {l : Launch} {d bc bs : Nat} {h : xH} {n n0 : Nat} {P : Option Value → xH → Nat → Prop} {ad tg : Nat → Nat} {lr lq : Nat} {ts : List sT} {ys : List Int32}
abbrev pg_S (ad : Nat → Nat) : List Nat := [ad 24, ad 25]
set_option maxRecDepth 20000 in
set_option maxHeartbeats 2000000 in
theorem BL_paper_ok {b c i : Int32} (hX : XT h n0 ad tg lr lq ts) (hB : By h (ad 24) (ad 25) 1130 ys) (hk : ∀ h' ys', By h' (ad 24) (ad 25) 1130 ys' → hp_off (pg_S ad) h h' → P (some (.int (paper_s ts b c i))) h' n) : ev_Run G l (d + 2) bc bs mBL_paper 0 [some (.ref (ad 0)), some (.int b), some (.int c), some (.int i), none, none] [] h n P := by
  have h0 := hX.2.1
  have hT := hX.2.2.2.2.1
  have hl := hX.2.2.2.1
  have hS : ∀ q ∈ pg_S ad, ∃ k, 2 ≤ k ∧ k < 26 ∧ q = ad k := by
    intro q hq; simp at hq; rcases hq with rfl | rfl; exact ⟨24, by omega, by omega, rfl⟩; exact ⟨25, by omega, by omega, rfl⟩
  have loop : ∀ j t c', fnd ts b = some (j, t) → t_kind t = 3 → c = nI c' → c' ≤ 99 → ∀ e k h' , k + e = (t_ls t).length → By h' (ad 24) (ad 25) 1130 (pp0 c' j ++ ((t_ls t).take k).flatMap pp1) → hp_off (pg_S ad) h h' → ev_Run G l (d + 2) bc bs mBL_paper 70 [some (.ref (ad 0)), some (.int b), some (.int c), some (.int i), some (.ref (ad (100 + 4 * j))), some (.int (nI k))] [] h' n P := by
    rintro j t c' q2 hkd rfl hc' e
    obtain ⟨hx1, hx2, hx3⟩ := fnd_some q2
    have hjl : j < ts.length := (List.getElem?_eq_some_iff.mp hx2).1
    have p0l : (pp0 c' j).length ≤ 5 := by
      have := ndg_le (v := c') (m := 2) (by omega) (by omega) (by omega)
      have := ndg_le (v := j) (m := 2) (by omega) (by omega) (by omega)
      simp [pp0, dgs_len]; omega
    rw [paper_s, q2] at hk
    simp only [] at hk
    rw [if_pos ⟨hkd, nI_pos (by omega), (nI_leI (by omega) (by decide)).mpr hc'⟩, nI_clamp (by omega)] at hk
    induction e with
    | zero =>
      intro k h' hke hBy ho
      have hX' := hX.off ho hS
      obtain ⟨⟨u1, u2⟩, o⟩ := hX'.2.2.2.2.1 j t hx2
      have h0' := hX'.2.1
      have hl8 := u2.len
      rw [List.take_of_length_le (by omega)] at hBy
      refine ev_iload dBL_paper_70 rfl ?_
      refine ev_aload dBL_paper_72 rfl ?_
      refine ev_get dBL_paper_74 fBL_82 u1 rfl ?_
      refine cz_La_size dBL_paper_77 lBL_160 u2.obj (Nat.le_of_ble_eq_true rfl) (La_size_ok u2 ?_)
      refine ev_icmp_ge (tgt := 144) dBL_paper_80 (by decide) (fun c80 => ?_) (fun c80 => absurd (nI_le (by omega) (by omega)) c80)
      refine ev_aload_n dBL_paper_144 rfl rfl ?_
      refine ev_get dBL_paper_145 fBL_58 h0' rfl ?_
      refine ev_iload_n dBL_paper_148 rfl rfl ?_
      refine cz_By_byteAt dBL_paper_149 lBL_233 hBy.obj (Nat.le_of_ble_eq_true rfl) (By_byteAt_ok hBy ?_)
      refine ev_iret dBL_paper_152 rfl rfl ?_
      exact hk _ _ hBy ho
    | succ e ih =>
      intro k h' hke hBy ho
      have hX' := hX.off ho hS
      obtain ⟨⟨u1, u2⟩, o⟩ := hX'.2.2.2.2.1 j t hx2
      have h0' := hX'.2.1
      have hl8 := u2.len
      have hhb := o.2.2.2.2.2.2.2.1
      have hgb := o.2.2.2.2.2.2.2.2.1
      obtain ⟨p, hp⟩ := sl_get (ls := t_ls t) (j := k) (by omega)
      have hp1 := hhb p (List.mem_of_getElem? hp)
      have hp2 := (hgb p (List.mem_of_getElem? hp)).2
      have hfl := pp_len (ls := (t_ls t).take k) (fun q hq => hhb q (List.mem_of_mem_take hq)) (fun q hq => hgb q (List.mem_of_mem_take hq))
      have htk : ((t_ls t).take k).length = k := by simp; omega
      have hn1 := ndg_le (v := p.1) (m := 2) (by omega) (by omega) (by omega)
      have hn2 := ndg_le (v := p.2) (m := 10) (by omega) (by omega) (by omega)
      have hlen0 : (pp0 c' j ++ ((t_ls t).take k).flatMap pp1).length ≤ 5 + 14 * k := by rw [List.length_append]; omega
      have hj := ih (k + 1)
      rw [pp_take hp, ← List.append_assoc] at hj
      generalize pp0 c' j ++ ((t_ls t).take k).flatMap pp1 = zs at *
      refine ev_iload dBL_paper_70 rfl ?_
      refine ev_aload dBL_paper_72 rfl ?_
      refine ev_get dBL_paper_74 fBL_82 u1 rfl ?_
      refine cz_La_size dBL_paper_77 lBL_160 u2.obj (Nat.le_of_ble_eq_true rfl) (La_size_ok u2 ?_)
      refine ev_icmp_ge (tgt := 144) dBL_paper_80 (by decide) (fun c80 => False.elim (absurd c80 (nI_ge (by omega) (by omega)))) (fun c80 => ?_)
      refine ev_aload_n dBL_paper_83 rfl rfl ?_
      refine ev_get dBL_paper_84 fBL_58 h0' rfl ?_
      refine ev_bipush (v := nI 32) dBL_paper_87 (by decide) ?_
      refine cz_By_put dBL_paper_89 lBL_232 hBy.obj (Nat.le_of_ble_eq_true rfl) (By_put_ok hBy (fun z1 h2 B2 o2 => ?_) (fun z1 => ?_))
      · have hX2 := hX'.off o2 hS
        obtain ⟨⟨v1, v2⟩, -⟩ := hX2.2.2.2.2.1 j t hx2
        refine ev_pop dBL_paper_92 rfl ?_
        refine ev_aload_n dBL_paper_93 rfl rfl ?_
        refine ev_get dBL_paper_94 fBL_58 hX2.2.1 rfl ?_
        refine ev_aload dBL_paper_97 rfl ?_
        refine ev_get dBL_paper_99 fBL_82 v1 rfl ?_
        refine ev_iload dBL_paper_102 rfl ?_
        refine cz_La_haulAt dBL_paper_104 lBL_145 v2.obj (Nat.le_of_ble_eq_true rfl) (La_haulAt_in v2 hp rfl ?_)
        refine ev_i2l dBL_paper_107 ?_
        refine ev_topl (nI_l (by omega)) ?_
        refine cz_By_putNumber dBL_paper_108 lBL_229 B2.obj (Nat.le_of_ble_eq_true rfl) (By_putNumber_ok (v := p.1) B2 (by omega) (by rw [List.length_append]; simp; omega) (fun h3 B3 o3 => ?_))
        have hX3 := hX2.off o3 hS
        have hl3 : ((zs ++ [nI 32]) ++ dgs (ndg 17 p.1) p.1).length = zs.length + 1 + ndg 17 p.1 := (by simp [dgs_len]; omega)
        refine ev_aload_n dBL_paper_111 rfl rfl ?_
        refine ev_get dBL_paper_112 fBL_58 hX3.2.1 rfl ?_
        refine ev_bipush (v := nI 58) dBL_paper_115 (by decide) ?_
        refine cz_By_put dBL_paper_117 lBL_232 B3.obj (Nat.le_of_ble_eq_true rfl) (By_put_ok B3 (fun z2 h4 B4 o4 => ?_) (fun z2 => ?_))
        · have hX4 := hX3.off o4 hS
          obtain ⟨⟨w1, w2⟩, -⟩ := hX4.2.2.2.2.1 j t hx2
          refine ev_pop dBL_paper_120 rfl ?_
          refine ev_aload_n dBL_paper_121 rfl rfl ?_
          refine ev_get dBL_paper_122 fBL_58 hX4.2.1 rfl ?_
          refine ev_aload dBL_paper_125 rfl ?_
          refine ev_get dBL_paper_127 fBL_82 w1 rfl ?_
          refine ev_iload dBL_paper_130 rfl ?_
          refine cz_La_gramsAt dBL_paper_132 lBL_149 w2.obj (Nat.le_of_ble_eq_true rfl) (La_gramsAt_in w2 hp rfl ?_)
          refine cz_By_putNumber dBL_paper_135 lBL_229 B4.obj (Nat.le_of_ble_eq_true rfl) (By_putNumber_ok (v := p.2) B4 (by omega) (by rw [List.length_append, hl3]; simp; omega) (fun h5 B5 o5 => ?_))
          refine ev_iinc dBL_paper_138 rfl (ev_inc1 _) (by decide) ?_
          refine ev_goto (tgt := 70) dBL_paper_141 (by decide) ?_
          exact hj h5 (by omega) (by simpa [pp1, List.append_assoc] using B5) (((ho.tr o2).tr o3).tr (o4.tr o5))
        · exact absurd z2 (by omega)
          
      · exact absurd z1 (by omega)
        
  refine ev_aload_n dBL_paper_0 rfl rfl ?_
  refine ev_iload_n dBL_paper_1 rfl rfl ?_
  refine cz_BL_find dBL_paper_2 lBL_96 h0 (Nat.le_of_ble_eq_true rfl) (BL_find_ok hX (fun j t q2 => ?_) (fun q2 => ?_))
  · obtain ⟨hx1, hx2, hx3⟩ := fnd_some q2
    have hjl : j < ts.length := (List.getElem?_eq_some_iff.mp hx2).1
    obtain ⟨⟨u1, u2⟩, o⟩ := hT j t hx2
    refine ev_astore dBL_paper_5 (by decide) ?_
    refine ev_aload dBL_paper_7 rfl ?_
    refine ev_ifnull dBL_paper_9 ?_
    refine ev_aload dBL_paper_12 rfl ?_
    refine ev_get dBL_paper_14 fBL_100 u1 rfl ?_
    refine ev_iconst (v := nI 3) dBL_paper_17 (by decide) ?_
    refine ev_icmp_ne (tgt := 30) dBL_paper_18 (by decide) (fun c18 => ?_) (fun c18 => ?_)
    · refine ev_iconst (v := -1) dBL_paper_30 (by decide) ?_
      refine ev_iret dBL_paper_31 rfl rfl ?_
      rw [paper_s, q2] at hk
      simp only [] at hk
      rw [if_neg (fun z => c18 (by rw [z.1]))] at hk
      exact hk h ys hB hp_off.rf
    · refine ev_iload_n dBL_paper_21 rfl rfl ?_
      refine ev_bipush (v := nI 99) dBL_paper_22 (by decide) ?_
      refine cz_BL_isWithin dBL_paper_24 lBL_66 (Nat.le_of_ble_eq_true rfl) (BL_isWithin_ok (fun y1 y2 => ?_) (fun y1 => ?_))
      · obtain ⟨c', hc', rfl⟩ := iI_lim (by decide) y1 y2
        have hn1 := ndg_le (v := c') (m := 2) (by omega) (by omega) (by omega)
        have hn2 := ndg_le (v := j) (m := 2) (by omega) (by omega) (by omega)
        refine ev_if_ne (tgt := 32) dBL_paper_27 (by decide) (fun _ => ?_) (fun q9 => absurd q9 (by decide))
        refine ev_aload_n dBL_paper_32 rfl rfl ?_
        refine ev_get dBL_paper_33 fBL_58 h0 rfl ?_
        refine cz_By_clear dBL_paper_36 lBL_228 hB.obj (Nat.le_of_ble_eq_true rfl) (By_clear_ok hB (fun h1 B1 o1 => ?_))
        have hX1 := hX.off o1 hS
        refine ev_aload_n dBL_paper_39 rfl rfl ?_
        refine ev_get dBL_paper_40 fBL_58 hX1.2.1 rfl ?_
        refine ev_iload_n dBL_paper_43 rfl rfl ?_
        refine ev_i2l dBL_paper_44 ?_
        refine ev_topl (nI_l (by omega)) ?_
        refine cz_By_putNumber dBL_paper_45 lBL_229 B1.obj (Nat.le_of_ble_eq_true rfl) (By_putNumber_ok (v := c') B1 (by omega) (by simp; omega) (fun h2 B2 o2 => ?_))
        have hX2 := hX1.off o2 hS
        refine ev_aload_n dBL_paper_48 rfl rfl ?_
        refine ev_get dBL_paper_49 fBL_58 hX2.2.1 rfl ?_
        refine ev_bipush (v := nI 47) dBL_paper_52 (by decide) ?_
        refine cz_By_put dBL_paper_54 lBL_232 B2.obj (Nat.le_of_ble_eq_true rfl) (By_put_ok B2 (fun z1 h3 B3 o3 => ?_) (fun z1 => ?_))
        · have hX3 := hX2.off o3 hS
          refine ev_pop dBL_paper_57 rfl ?_
          refine ev_aload_n dBL_paper_58 rfl rfl ?_
          refine ev_get dBL_paper_59 fBL_58 hX3.2.1 rfl ?_
          refine ev_iload_n dBL_paper_62 rfl rfl ?_
          rw [hx1]
          refine ev_i2l dBL_paper_63 ?_
          refine ev_topl (nI_l (by omega)) ?_
          refine cz_By_putNumber dBL_paper_64 lBL_229 B3.obj (Nat.le_of_ble_eq_true rfl) (By_putNumber_ok (v := j) B3 (by omega) (by simp [dgs_len]; omega) (fun h4 B4 o4 => ?_))
          refine ev_iconst (v := nI 0) dBL_paper_67 (by decide) ?_
          refine ev_istore dBL_paper_68 (by decide) ?_
          rw [← hx1]
          exact loop j t c' q2 ((nI_eq (by have := o.1; omega) (by decide)).mp c18) rfl hc' (t_ls t).length 0 h4 (by omega) (by simpa [pp0, List.append_assoc] using B4) ((o1.tr o2).tr (o3.tr o4))
        · exact absurd z1 (by simp [dgs_len]; omega)
          
      · refine ev_if_ne (tgt := 32) dBL_paper_27 (by decide) (fun q9 => absurd (by decide) q9) (fun _ => ?_)
        refine ev_iconst (v := -1) dBL_paper_30 (by decide) ?_
        refine ev_iret dBL_paper_31 rfl rfl ?_
        rw [paper_s, q2] at hk
        simp only [] at hk
        rw [if_neg (fun z => y1.elim z.2.1 (fun q => iI_le_nlt z.2.2 q))] at hk
        exact hk h ys hB hp_off.rf
  · refine ev_astoreN dBL_paper_5 (by decide) ?_
    refine ev_aloadN dBL_paper_7 rfl ?_
    refine ev_ifnullN (tgt := 30) dBL_paper_9 (by decide) ?_
    refine ev_iconst (v := -1) dBL_paper_30 (by decide) ?_
    refine ev_iret dBL_paper_31 rfl rfl ?_
    rw [paper_s, q2] at hk
    exact hk h ys hB hp_off.rf
end PP
