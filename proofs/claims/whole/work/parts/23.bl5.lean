def correct_s (ts : List sT) (x : Int32) (g : Int64) : Int32 × List sT := match fnd ts x with
  | none => (nI 0, ts)
  | some p => if t_kind p.2 = 1 ∧ (lN 1 ≤ g ∧ g ≤ lN 1000000000) ∧ t_told p.2 ≤ sl_tot (t_ls p.2) + gN g then (nI 1, ts.set p.1 (t_setG (t_setL p.2 (if sl_tot (t_ls p.2) + gN g - t_told p.2 = 0 then [] else [(p.1, sl_tot (t_ls p.2) + gN g - t_told p.2)])) (gN g))) else (nI 0, ts)
abbrev into_c (p q : Nat × sT) (g : Int64) : Prop := (¬ p.1 = q.1 ∧ t_kind p.2 = 2 ∧ ¬ t_kind q.2 = 3 ∧ t_held p.2 = 0 ∧ t_held q.2 = 0) ∧ (lN 1 ≤ g ∧ g ≤ lN (sl_tot (t_ls q.2))) ∧ (sl_jl (t_ls p.2) (sl_tk (t_ls q.2) (gN g))).length ≤ 80
def into_s (ts : List sT) (b f : Int32) (g : Int64) : Int32 × List sT := match fnd ts b with
  | none => (nI 0, ts)
  | some p => match fnd ts f with
    | none => (nI 0, ts)
    | some q => if into_c p q g then (nI 1, (ts.set p.1 (t_setW (t_setL p.2 (sl_jl (t_ls p.2) (sl_tk (t_ls q.2) (gN g)))) (max (t_warm p.2) (t_warm q.2)))).set q.1 (t_setL q.2 (sl_rs (t_ls q.2) (gN g)))) else (nI 0, ts)
section BL5
variable {G : xG} {l : Launch} {d bc bs : Nat} {h h' : xH} {n : Nat} {P : Option Value → xH → Nat → Prop} {ad tg : Nat → Nat} {lr lq : Nat} {ts ts' : List sT} {S : List Nat}
theorem La.len {h : xH} {la ia ga : Nat} {ls : sL} (hL : La h la ia ga ls) : ls.length ≤ 80 := hL.choose_spec.choose_spec.2.2.2.1
theorem ad_n3 {T i : Nat} (hA : ad_ok ad tg T) (hi : i < T) : ad (100 + 4 * i) ∉ [ad (101 + 4 * i), ad (102 + 4 * i), ad (103 + 4 * i)] := by
  simp; exact ⟨ad_ne hA (ad_th (j := 0) hi (by omega)) (ad_th (j := 1) hi (by omega)) (by omega), ad_ne hA (ad_th (j := 0) hi (by omega)) (ad_th (j := 2) hi (by omega)) (by omega), ad_ne hA (ad_th (j := 0) hi (by omega)) (ad_th (j := 3) hi (by omega)) (by omega)⟩
set_option maxRecDepth 20000 in
set_option maxHeartbeats 1000000 in
theorem BL_correct_ok {x : Int32} {g : Int64} (hX : XT h n ad tg lr lq ts) (hok : ∀ t ∈ (correct_s ts x g).2, t_ok t) (hk : ∀ h' n' ad' tg', XT h' n' ad' tg' lr lq (correct_s ts x g).2 → FrT ad ad' h h' → n ≤ n' → P (some (.int (correct_s ts x g).1)) h' n') : ev_Run G l (d + 2) bc bs mBL_correct 0 [some (.ref (ad 0)), some (.int x), some (.long g), none, none, none, none] [] h n P := by
  obtain ⟨hA, h0, -, hl, hT, hlr, hbd⟩ := id hX
  have refuse : correct_s ts x g = (nI 0, ts) → P (some (.int (nI 0))) h n := by
    intro hc
    have := hk h n ad tg
    rw [hc] at this
    exact this hX FrT.rf (Nat.le_refl _)
  have fin : ∀ i t g' h2 v, fnd ts x = some (i, t) → g = lN g' → 1 ≤ g' → g' ≤ 1000000000 → t_kind t = 1 → t_told t ≤ sl_tot (t_ls t) + g' → v = sl_tot (t_ls t) + g' - t_told t → h2 (ad (100 + 4 * i)) = some (Th_c (ad (101 + 4 * i)) (t_setG t g')) → La h2 (ad (101 + 4 * i)) (ad (102 + 4 * i)) (ad (103 + 4 * i)) (if v = 0 then [] else [(i, v)]) → hp_off [ad (100 + 4 * i), ad (101 + 4 * i), ad (102 + 4 * i), ad (103 + 4 * i)] h h2 → P (some (.int (nI 1))) h2 n := by
    rintro i t g' h2 v q2 rfl hg1 hg2 hkd htd rfl k1 k2 ho
    obtain ⟨hx1, hx2, hx3⟩ := fnd_some q2
    have hi : i < ts.length := (List.getElem?_eq_some_iff.mp hx2).1
    rw [correct_s, q2] at hk hok
    simp only [] at hk hok
    rw [gN_lN (by omega), if_pos ⟨hkd, ⟨(pk_lLE (by omega) (by omega)).mpr hg1, (pk_lLE (by omega) (by omega)).mpr hg2⟩, htd⟩] at hk hok
    have := XT_set4 (t' := t_setG (t_setL t (if sl_tot (t_ls t) + g' - t_told t = 0 then [] else [(i, sl_tot (t_ls t) + g' - t_told t)])) g') hX hi ho ⟨k1, k2⟩ (hok _ (List.mem_set hi _))
    exact hk _ n ad tg this.1 this.2 (Nat.le_refl _)
  refine ev_aload_n dBL_correct_0 rfl rfl ?_
  refine ev_iload_n dBL_correct_1 rfl rfl ?_
  refine cz_BL_findHaul dBL_correct_2 lBL_131 h0 (Nat.le_of_ble_eq_true rfl) (BL_findHaul_ok hX (fun i t q2 qk => ?_) (fun q2 => ?_))
  · obtain ⟨hx1, hx2, hx3⟩ := fnd_some q2
    obtain ⟨⟨u1, u2⟩, o⟩ := hT i t hx2
    have hi : i < ts.length := (List.getElem?_eq_some_iff.mp hx2).1
    have htl := sl_tot_lt o.2.2.2.2.2.2.2.2.1 u2.len
    have htd := o.2.2.2.2.1
    refine ev_astore dBL_correct_5 (by decide) ?_
    refine ev_aload dBL_correct_7 rfl ?_
    refine ev_ifnull dBL_correct_9 ?_
    refine ev_lload_n dBL_correct_12 rfl rfl ?_
    refine cz_BL_isWeight dBL_correct_13 lBL_62 (Nat.le_of_ble_eq_true rfl) (BL_isWeight_ok (fun w1 w2 => ?_) (fun w1 => ?_))
    · obtain ⟨g', hg1, hg2, rfl⟩ := lL_in (by decide) w1 w2
      refine ev_if_ne (tgt := 21) dBL_correct_16 (by decide) (fun _ => ?_) (fun q9 => absurd q9 (by decide))
      refine ev_aload dBL_correct_21 rfl ?_
      refine ev_get dBL_correct_23 fBL_82 u1 rfl ?_
      refine cz_La_total dBL_correct_26 lBL_134 (u2.obj) (Nat.le_of_ble_eq_true rfl) (La_total_ok u2 ?_)
      refine ev_lload_n dBL_correct_29 rfl rfl ?_
      refine ev_ladd dBL_correct_30 ?_
      refine ev_topl (lN_add _ _) ?_
      refine ev_aload dBL_correct_31 rfl ?_
      refine ev_get dBL_correct_33 fBL_78 u1 rfl ?_
      refine ev_lsub dBL_correct_36 ?_
      refine ev_lstore dBL_correct_37 (by decide) ?_
      refine ev_lload dBL_correct_39 rfl ?_
      refine ev_lconst (v := lN 0) dBL_correct_41 (by decide) ?_
      refine ev_lcmp_ge (tgt := 48) dBL_correct_42 dBL_correct_43 (by decide) (fun c42 => ?_) (fun c42 => ?_)
      · rw [Int64.le_iff_toInt_le, lN_subT (by omega) (by omega), pk_lT (by omega)] at c42
        have c42 : t_told t ≤ sl_tot (t_ls t) + g' := (by omega)
        rw [lN_sub c42]
        refine ev_aload dBL_correct_48 rfl ?_
        refine ev_lload_n dBL_correct_50 rfl rfl ?_
        refine ev_put dBL_correct_51 fBL_78 tTh_4 u1 rfl rfl (Nat.le_of_ble_eq_true rfl) ?_
        refine ev_aload dBL_correct_54 rfl ?_
        refine ev_get dBL_correct_56 fBL_82 (hp_set_self _ _ _) rfl ?_
        have hK : La (hp_set h (ad (100 + 4 * i)) (Th_c (ad (101 + 4 * i)) (t_setG t g'))) (ad (101 + 4 * i)) (ad (102 + 4 * i)) (ad (103 + 4 * i)) (t_ls t) := u2.keep (hp_off.rf.set (S := [ad (100 + 4 * i)]) (by simp)) (ad_n1 hA hi (j := 1) (by omega) (by omega)) (ad_n1 hA hi (j := 2) (by omega) (by omega)) (ad_n1 hA hi (j := 3) (by omega) (by omega))
        refine cz_La_clear dBL_correct_59 lBL_138 hK.obj (Nat.le_of_ble_eq_true rfl) (La_clear_ok hK (fun h2 q3 q4 => ?_))
        have k1 : h2 (ad (100 + 4 * i)) = some (Th_c (ad (101 + 4 * i)) (t_setG t g')) := (q4 _ (ad_n3 hA hi)).trans (hp_set_self _ _ _)
        have ho : hp_off [ad (100 + 4 * i), ad (101 + 4 * i), ad (102 + 4 * i), ad (103 + 4 * i)] h h2 := (hp_off.rf.set (by simp)).tr (q4.mono (by simp))
        refine ev_lload dBL_correct_62 rfl ?_
        refine ev_lconst (v := lN 0) dBL_correct_64 (by decide) ?_
        refine ev_lcmp_le (tgt := 80) dBL_correct_65 dBL_correct_66 (by decide) (fun c65 => ?_) (fun c65 => ?_)
        · refine ev_iconst (v := nI 1) dBL_correct_80 (by decide) ?_
          refine ev_iret dBL_correct_81 rfl rfl ?_
          rw [pk_lLE (by omega) (by omega)] at c65
          exact fin i t g' h2 _ q2 rfl hg1 hg2 qk c42 rfl k1 (by rw [if_pos (by omega)]; exact q3) ho
        · refine ev_aload dBL_correct_69 rfl ?_
          refine ev_get dBL_correct_71 fBL_82 k1 rfl ?_
          refine ev_iload_n dBL_correct_74 rfl rfl ?_
          refine ev_lload dBL_correct_75 rfl ?_
          rw [pk_lLE (by omega) (by omega)] at c65
          rw [hx1]
          refine cz_La_append dBL_correct_77 lBL_86 q3.obj (Nat.le_of_ble_eq_true rfl) (La_append_ok (a := i) q3 (by intro r hr; cases hr) (by omega) (by rw [sl_jn_nil]; simp) (fun h3 q5 q6 => ?_))
          refine ev_iconst (v := nI 1) dBL_correct_80 (by decide) ?_
          refine ev_iret dBL_correct_81 rfl rfl ?_
          exact fin i t g' h3 _ q2 rfl hg1 hg2 qk c42 rfl ((q6 _ (ad_n3 hA hi)).trans k1) (by rw [if_neg (by omega)]; exact q5) (ho.tr (q6.mono (by simp)))
      · refine ev_iconst (v := nI 0) dBL_correct_46 (by decide) ?_
        refine ev_iret dBL_correct_47 rfl rfl ?_
        exact refuse (by rw [correct_s, q2]; exact if_neg (fun z => c42 (by have : t_told t ≤ sl_tot (t_ls t) + gN (lN g') := z.2.2; rw [gN_lN (by omega)] at this; rw [Int64.le_iff_toInt_le, lN_subT (by omega) (by omega), pk_lT (by omega)]; omega)))
    · refine ev_if_ne (tgt := 21) dBL_correct_16 (by decide) (fun q9 => absurd (by decide) q9) (fun _ => ?_)
      refine ev_iconst (v := nI 0) dBL_correct_19 (by decide) ?_
      refine ev_iret dBL_correct_20 rfl rfl ?_
      exact refuse (by rw [correct_s, q2]; exact if_neg (fun z => w1 z.2.1))
  · refine ev_astoreN dBL_correct_5 (by decide) ?_
    refine ev_aloadN dBL_correct_7 rfl ?_
    refine ev_ifnullN (tgt := 19) dBL_correct_9 (by decide) ?_
    refine ev_iconst (v := nI 0) dBL_correct_19 (by decide) ?_
    refine ev_iret dBL_correct_20 rfl rfl ?_
    exact refuse (by unfold correct_s; cases hq : fnd ts x with | none => rfl | some p => exact if_neg (fun z => q2 p.1 p.2 hq z.1))
theorem sl_sw_le (T s : sL) (g : Nat) : sl_sw T s g ≤ T.length + s.length := by
  have := sl_tk_len s g
  unfold sl_sw
  split <;> omega
theorem ad_pair {T i j : Nat} (hA : ad_ok ad tg T) (hi : i < T) (hj : j < T) (hij : i ≠ j) (k : Nat) (hk : k < 4) (m : Nat) (hm : m < 4) : ad (100 + k + 4 * i) ≠ ad (100 + m + 4 * j) := ad_ne hA (ad_th hi hk) (ad_th hj hm) (by omega)
set_option maxRecDepth 20000 in
set_option maxHeartbeats 2000000 in
theorem BL_into_ok {b f : Int32} {g : Int64} (hX : XT h n ad tg lr lq ts) (hok : ∀ t ∈ (into_s ts b f g).2, t_ok t) (hk : ∀ h' n' ad' tg', XT h' n' ad' tg' lr lq (into_s ts b f g).2 → FrT ad ad' h h' → n ≤ n' → P (some (.int (into_s ts b f g).1)) h' n') : ev_Run G l (d + 3) bc bs mBL_into 0 [some (.ref (ad 0)), some (.int b), some (.int f), some (.long g), none, none, none] [] h n P := by
  obtain ⟨hA, h0, -, hl, hT, hlr, hbd⟩ := id hX
  have refuse : into_s ts b f g = (nI 0, ts) → P (some (.int (nI 0))) h n := by
    intro hc
    have := hk h n ad tg
    rw [hc] at this
    exact this hX FrT.rf (Nat.le_refl _)
  have fin : ∀ i t j u g' h2, fnd ts b = some (i, t) → fnd ts f = some (j, u) → g = lN g' → 1 ≤ g' → g' ≤ sl_tot (t_ls u) → sl_tot (t_ls u) < 2 ^ 62 → ¬ i = j → t_kind t = 2 → ¬ t_kind u = 3 → t_held t = 0 → t_held u = 0 → (sl_jl (t_ls t) (sl_tk (t_ls u) g')).length ≤ 80 → Th h2 (ad (100 + 4 * i)) (ad (101 + 4 * i)) (ad (102 + 4 * i)) (ad (103 + 4 * i)) (t_setW (t_setL t (sl_jl (t_ls t) (sl_tk (t_ls u) g'))) (max (t_warm t) (t_warm u))) → Th h2 (ad (100 + 4 * j)) (ad (101 + 4 * j)) (ad (102 + 4 * j)) (ad (103 + 4 * j)) (t_setL u (sl_rs (t_ls u) g')) → hp_off [ad (100 + 4 * i), ad (101 + 4 * i), ad (102 + 4 * i), ad (103 + 4 * i), ad (101 + 4 * j), ad (102 + 4 * j), ad (103 + 4 * j)] h h2 → P (some (.int (nI 1))) h2 n := by
    rintro i t j u g' h2 q2 q9 rfl hg1 hg2 hg3 hij hk1 hk2 hh1 hh2 hlen k1 k2 ho
    obtain ⟨hx1, hx2, hx3⟩ := fnd_some q2
    obtain ⟨hy1, hy2, hy3⟩ := fnd_some q9
    have hi : i < ts.length := (List.getElem?_eq_some_iff.mp hx2).1
    have hj : j < ts.length := (List.getElem?_eq_some_iff.mp hy2).1
    rw [into_s, q2] at hk hok
    simp only [q9] at hk hok
    rw [if_pos (show into_c (i, t) (j, u) (lN g') from ⟨⟨hij, hk1, hk2, hh1, hh2⟩, ⟨(pk_lLE (by omega) (by omega)).mpr hg1, show lN g' ≤ lN (sl_tot (t_ls u)) from (pk_lLE (by omega) (by omega)).mpr hg2⟩, by rw [gN_lN (by omega)]; exact hlen⟩), gN_lN (by omega)] at hk hok
    have := XT_upd hX (ts' := (ts.set i (t_setW (t_setL t (sl_jl (t_ls t) (sl_tk (t_ls u) g'))) (max (t_warm t) (t_warm u)))).set j (t_setL u (sl_rs (t_ls u) g'))) (by simp) ho (fun q hq => ?_) (fun k v hv => ?_)
    · exact hk _ n ad tg this.1 this.2 (Nat.le_refl _)
    · simp only [List.mem_cons, List.not_mem_nil, or_false] at hq
      rcases hq with rfl | rfl | rfl | rfl | rfl | rfl | rfl <;> exact Or.inr ⟨_, by omega, by omega, rfl⟩
    · have hv9 := hok v (List.mem_of_getElem? hv)
      by_cases hkj : k = j
      · subst hkj
        rw [List.getElem?_set_self (by simp; exact hj)] at hv
        cases hv
        exact ⟨k2, hv9⟩
      · rw [List.getElem?_set_ne (Ne.symm hkj)] at hv
        by_cases hki : k = i
        · subst hki
          rw [List.getElem?_set_self hi] at hv
          cases hv
          exact ⟨k1, hv9⟩
        · rw [List.getElem?_set_ne (Ne.symm hki)] at hv
          refine XT_other hX ho hv (fun q hq => ?_)
          simp only [List.mem_cons, List.not_mem_nil, or_false] at hq
          rcases hq with rfl | rfl | rfl | rfl | rfl | rfl | rfl <;> exact Or.inr ⟨_, by omega, by omega, by omega, rfl⟩
  refine ev_aload_n dBL_into_0 rfl rfl ?_
  refine ev_iload_n dBL_into_1 rfl rfl ?_
  refine cz_BL_find dBL_into_2 lBL_96 h0 (Nat.le_of_ble_eq_true rfl) (BL_find_ok hX (fun i t q2 => ?_) (fun q2 => ?_))
  · refine ev_astore dBL_into_5 (by decide) ?_
    refine ev_aload_n dBL_into_7 rfl rfl ?_
    refine ev_iload_n dBL_into_8 rfl rfl ?_
    refine cz_BL_find dBL_into_9 lBL_96 h0 (Nat.le_of_ble_eq_true rfl) (BL_find_ok hX (fun j u q9 => ?_) (fun q9 => ?_))
    · obtain ⟨hx1, hx2, hx3⟩ := fnd_some q2
      obtain ⟨hy1, hy2, hy3⟩ := fnd_some q9
      have hi : i < ts.length := (List.getElem?_eq_some_iff.mp hx2).1
      have hj : j < ts.length := (List.getElem?_eq_some_iff.mp hy2).1
      obtain ⟨⟨a1, a2⟩, o⟩ := hT i t hx2
      obtain ⟨⟨b1, b2⟩, p⟩ := hT j u hy2
      have ref2 : ¬ into_c (i, t) (j, u) g → P (some (.int (nI 0))) h n := fun hc => refuse (by rw [into_s, q2]; simp only [q9]; exact if_neg hc)
      have htl := sl_tot_lt p.2.2.2.2.2.2.2.2.1 b2.len
      refine ev_astore dBL_into_12 (by decide) ?_
      refine ev_aload dBL_into_14 rfl ?_
      refine ev_ifnull dBL_into_16 ?_
      refine ev_aload dBL_into_19 rfl ?_
      refine ev_ifnull dBL_into_21 ?_
      refine ev_aload dBL_into_24 rfl ?_
      refine ev_aload dBL_into_26 rfl ?_
      refine ev_acmp_ne (tgt := 33) dBL_into_28 (by decide) (fun c28 => ?_) (fun c28 => ?_)
      · refine ev_aload dBL_into_33 rfl ?_
        refine ev_get dBL_into_35 fBL_100 a1 rfl ?_
        refine ev_iconst (v := nI 2) dBL_into_38 (by decide) ?_
        refine ev_icmp_ne (tgt := 51) dBL_into_39 (by decide) (fun c39 => ?_) (fun c39 => ?_)
        · refine ev_iconst (v := nI 0) dBL_into_51 (by decide) ?_
          refine ev_iret dBL_into_52 rfl rfl ?_
          exact ref2 (fun z => c39 (by rw [show t_kind t = 2 from z.1.2.1]))
        · refine ev_aload dBL_into_42 rfl ?_
          refine ev_get dBL_into_44 fBL_100 b1 rfl ?_
          refine ev_iconst (v := nI 3) dBL_into_47 (by decide) ?_
          refine ev_icmp_ne (tgt := 53) dBL_into_48 (by decide) (fun c48 => ?_) (fun c48 => ?_)
          · refine ev_aload dBL_into_53 rfl ?_
            refine ev_get dBL_into_55 fBL_103 a1 rfl ?_
            refine ev_if_ne (tgt := 81) dBL_into_58 (by decide) (fun c58 => ?_) (fun c58 => ?_)
            · refine ev_iconst (v := nI 0) dBL_into_81 (by decide) ?_
              refine ev_iret dBL_into_82 rfl rfl ?_
              exact ref2 (fun z => c58 (by rw [show t_held t = 0 from z.1.2.2.2.1]; rfl))
            · refine ev_aload dBL_into_61 rfl ?_
              refine ev_get dBL_into_63 fBL_103 b1 rfl ?_
              refine ev_if_ne (tgt := 81) dBL_into_66 (by decide) (fun c66 => ?_) (fun c66 => ?_)
              · refine ev_iconst (v := nI 0) dBL_into_81 (by decide) ?_
                refine ev_iret dBL_into_82 rfl rfl ?_
                exact ref2 (fun z => c66 (by rw [show t_held u = 0 from z.1.2.2.2.2]; rfl))
              · refine ev_aload dBL_into_69 rfl ?_
                refine ev_get dBL_into_71 fBL_82 b1 rfl ?_
                refine ev_lload_n dBL_into_74 rfl rfl ?_
                refine cz_La_have dBL_into_75 lBL_107 b2.obj (Nat.le_of_ble_eq_true rfl) (La_have_ok b2 (fun g1 g2 => ?_) (fun g1 => ?_))
                · obtain ⟨g', hg1, hg2, rfl⟩ := lL_in (by omega) g1 g2
                  have hs : t_ls u ≠ [] := (fun z => by rw [z] at hg2; simp [sl_tot] at hg2; omega)
                  refine ev_if_ne (tgt := 83) dBL_into_78 (by decide) (fun _ => ?_) (fun q9 => absurd q9 (by decide))
                  refine ev_aload dBL_into_83 rfl ?_
                  refine ev_get dBL_into_85 fBL_82 a1 rfl ?_
                  refine ev_aload dBL_into_88 rfl ?_
                  refine ev_get dBL_into_90 fBL_82 b1 rfl ?_
                  refine ev_lload_n dBL_into_93 rfl rfl ?_
                  refine cz_La_sizeWith dBL_into_94 lBL_110 a2.obj (Nat.le_of_ble_eq_true rfl) (La_sizeWith_ok a2 b2 hs o.2.2.2.2.2.2.2.1 p.2.2.2.2.2.2.2.1 p.2.2.2.2.2.2.2.2.1 (by omega) ?_)
                  refine ev_bipush (v := nI 80) dBL_into_97 (by decide) ?_
                  refine ev_icmp_le (tgt := 104) dBL_into_99 (by decide) (fun c99 => ?_) (fun c99 => ?_)
                  · rw [← sl_sw_eq hs hg1 p.2.2.2.2.2.2.2.2.2.1, nI_leI (by have := sl_sw_le (t_ls t) (t_ls u) g'; rw [← sl_sw_eq hs hg1 p.2.2.2.2.2.2.2.2.2.1] at this; have := a2.len; have := b2.len; omega) (by decide)] at c99
                    refine ev_aload dBL_into_104 rfl ?_
                    refine ev_aload dBL_into_106 rfl ?_
                    refine ev_lload_n dBL_into_108 rfl rfl ?_
                    refine cz_Th_takeFrom dBL_into_109 lBL_114 a1 (Nat.le_of_ble_eq_true rfl) (Th_takeFrom_ok ⟨a1, a2⟩ ⟨b1, b2⟩ c28 (ad_pair hA hj hi (fun z => c28 (by rw [z])) 1 (by omega) 1 (by omega)) (ad_pair hA hj hi (fun z => c28 (by rw [z])) 2 (by omega) 2 (by omega)) (ad_pair hA hj hi (fun z => c28 (by rw [z])) 3 (by omega) 3 (by omega)) o.2.2.2.2.2.2.2.1 p.2.2.2.2.2.2.2.1 p.2.2.2.2.2.2.2.2.1 (by omega) (by have := o.2.2.2.2.2.2.1; omega) (by have := p.2.2.2.2.2.2.1; omega) c99 (fun h2 k1 k2 ho => ?_))
                    refine ev_iconst (v := nI 1) dBL_into_112 (by decide) ?_
                    refine ev_iret dBL_into_113 rfl rfl ?_
                    exact fin i t j u g' h2 q2 q9 rfl hg1 hg2 (by omega) (fun z => c28 (by rw [z])) ((nI_eq (by have := o.1; omega) (by decide)).mp c39) (fun z => c48 (by rw [z])) ((nI_eq (by have := o.2.2.2.2.2.1; omega) (by decide)).mp c58) ((nI_eq (by have := p.2.2.2.2.2.1; omega) (by decide)).mp c66) c99 k1 k2 ho
                  · rw [← sl_sw_eq hs hg1 p.2.2.2.2.2.2.2.2.2.1, nI_leI (by have := sl_sw_le (t_ls t) (t_ls u) g'; rw [← sl_sw_eq hs hg1 p.2.2.2.2.2.2.2.2.2.1] at this; have := a2.len; have := b2.len; omega) (by decide)] at c99
                    refine ev_iconst (v := nI 0) dBL_into_102 (by decide) ?_
                    refine ev_iret dBL_into_103 rfl rfl ?_
                    exact ref2 (fun z => c99 (by have := z.2.2; rw [gN_lN (by omega)] at this; exact this))
                · refine ev_if_ne (tgt := 83) dBL_into_78 (by decide) (fun q9 => absurd (by decide) q9) (fun _ => ?_)
                  refine ev_iconst (v := nI 0) dBL_into_81 (by decide) ?_
                  refine ev_iret dBL_into_82 rfl rfl ?_
                  exact ref2 (fun z => g1 z.2.1)
          · refine ev_iconst (v := nI 0) dBL_into_51 (by decide) ?_
            refine ev_iret dBL_into_52 rfl rfl ?_
            exact ref2 (fun z => (show ¬ t_kind u = 3 from z.1.2.2.1) ((nI_eq (by have := p.1; omega) (by decide)).mp c48))
      · refine ev_iconst (v := nI 0) dBL_into_31 (by decide) ?_
        refine ev_iret dBL_into_32 rfl rfl ?_
        exact ref2 (fun z => ad_pair hA hi hj z.1.1 0 (by omega) 0 (by omega) c28)
    · refine ev_astoreN dBL_into_12 (by decide) ?_
      refine ev_aload dBL_into_14 rfl ?_
      refine ev_ifnull dBL_into_16 ?_
      refine ev_aloadN dBL_into_19 rfl ?_
      refine ev_ifnullN (tgt := 31) dBL_into_21 (by decide) ?_
      refine ev_iconst (v := nI 0) dBL_into_31 (by decide) ?_
      refine ev_iret dBL_into_32 rfl rfl ?_
      first | exact refuse (by rw [into_s, q2]; simp only [q9]) | exact refuse (by rw [into_s, q2])
  · refine ev_astoreN dBL_into_5 (by decide) ?_
    refine ev_aload_n dBL_into_7 rfl rfl ?_
    refine ev_iload_n dBL_into_8 rfl rfl ?_
    refine cz_BL_find dBL_into_9 lBL_96 h0 (Nat.le_of_ble_eq_true rfl) (BL_find_ok hX (fun j u q9 => ?_) (fun q9 => ?_))
    · refine ev_astore dBL_into_12 (by decide) ?_
      refine ev_aloadN dBL_into_14 rfl ?_
      refine ev_ifnullN (tgt := 31) dBL_into_16 (by decide) ?_
      refine ev_iconst (v := nI 0) dBL_into_31 (by decide) ?_
      refine ev_iret dBL_into_32 rfl rfl ?_
      first | exact refuse (by rw [into_s, q2]; simp only [q9]) | exact refuse (by rw [into_s, q2])
    · refine ev_astoreN dBL_into_12 (by decide) ?_
      refine ev_aloadN dBL_into_14 rfl ?_
      refine ev_ifnullN (tgt := 31) dBL_into_16 (by decide) ?_
      refine ev_iconst (v := nI 0) dBL_into_31 (by decide) ?_
      refine ev_iret dBL_into_32 rfl rfl ?_
      first | exact refuse (by rw [into_s, q2]; simp only [q9]) | exact refuse (by rw [into_s, q2])
end BL5
