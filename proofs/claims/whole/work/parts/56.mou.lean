section MOU6
variable {G : xG} {l : Launch} {d bc bs : Nat} {h h0 : xH} {n : Nat} {P : Option Value → xH → Nat → Prop} {ad tg : Nat → Nat} {T : Nat} {iv : Nat → Int32} {ia : Nat → Nat → Int32} {la : Nat → Nat → Int64} {ys : List Int32} {us : List sU}
theorem num_full {full : Bool} {lo hi : Int32} {a a' : Nat} {v v' w : Int32} (hlo : lo = if full then nI 1000000 else nI 0) (hhi : hi = if full then nI 1000000 else nI 99) (h : num_r ys lo hi a a' v v' w) : num_r ys (nI 0) (if full then -1 else nI 99) a a' v v' w := by
  subst hlo hhi
  cases full with
  | false => exact h
  | true =>
    refine ⟨fun z => ?_, h.2⟩
    have := h.1 z
    simp only [if_true] at this ⊢
    rw [nnu_full] at this
    exact this
set_option maxRecDepth 20000 in
set_option maxHeartbeats 4000000 in
theorem Mo_names_ok (hM : MoK h0 h ad tg T iv ia la) (hY : MoY iv ia ys) (hU : MoU iv ia us) (hk : ∀ h' iv' ia', MoK h0 h' ad tg T iv' ia' la → MoY iv' ia' [] → MoU iv' ia' (names_s ys us).2 → mo_nr iv iv' ia ia' → P (some (.int (names_s ys us).1)) h' n) : ev_Run G l (d + 2) bc bs mMo_names 0 [some (.ref (ad 1000)), none, none, none, none] [] h n P := by
  have y2 := hY.2.1
  have fin : ∀ h' iv' ia' rs v x x2 x3 x4, MoK h0 h' ad tg T iv' ia' la → MoB iv' ia' rs → iv' 6 = v → (match nms ys with | .inl e => v = nI e ∧ e ≤ 400 | .inr u => v = -1 ∧ rs = u) → (∀ j, j < 4 ∨ 7 ≤ j → iv' j = iv j) → (∀ j, j < 18 ∨ 22 ≤ j → ia' j = ia j) → ev_Run G l (d + 2) bc bs mMo_names 179 [some (.ref (ad 1000)), x, x2, x3, x4] [] h' n P := by
    intro h' iv' ia' rs v x x2 x3 x4 m b h6 hv hj hja
    refine Mo_names_end (us := us) m ⟨(hj 3 (by omega)).trans hU.1, hU.2.1, fun k u hu => by rw [hja 14 (by omega), hja 15 (by omega), hja 16 (by omega), hja 17 (by omega)]; exact hU.2.2 k u hu⟩ b h6 hv (fun h2 iv2 ia2 m2 yy uu nr => hk _ _ _ m2 yy uu ⟨fun j hj' => (nr.1 j hj').trans (hja j (by omega)), fun j hj' => (nr.2 j hj').trans (hj j (by omega))⟩)
  have out : ∀ h' iv' ia' rs v x x2 x3 x4, MoK h0 h' ad tg T iv' ia' la → MoB iv' ia' rs → iv' 6 = v → ¬ v = -1 → (match nms ys with | .inl e => v = nI e ∧ e ≤ 400 | .inr u => v = -1 ∧ rs = u) → (∀ j, j < 4 ∨ 7 ≤ j → iv' j = iv j) → (∀ j, j < 18 ∨ 22 ≤ j → ia' j = ia j) → ev_Run G l (d + 2) bc bs mMo_names 15 [some (.ref (ad 1000)), x, x2, x3, x4] [] h' n P := by
    intro h' iv' ia' rs v x x2 x3 x4 m b h6 hne hv hj hja
    refine ev_aload_n dMo_names_15 rfl rfl ?_
    refine ev_get dMo_names_16 fMo_154 m.2.1.1 rfl ?_
    refine ev_iconst (v := -1) dMo_names_19 (by decide) ?_
    refine ev_icmp_ne (tgt := 179) dMo_names_20 (by decide) (fun c20 => ?_) (fun c20 => ?_)
    · skip
      exact fin _ _ _ rs v _ _ _ _ m b h6 hv hj hja
    · exact absurd (h6.symm.trans c20) hne
      
  have loop : ∀ e a rs h' iv' ia' x x2 x3 x4, rs.length + e = 41 → a ≤ ys.length → nms ys = nrs ys e (skp ys a) rs → MoK h0 h' ad tg T iv' ia' la → MoB iv' ia' rs → iv' 5 = nI a → iv' 6 = -1 → (∀ j, j < 4 ∨ 7 ≤ j → iv' j = iv j) → (∀ j, j < 18 ∨ 22 ≤ j → ia' j = ia j) → ev_Run G l (d + 2) bc bs mMo_names 15 [some (.ref (ad 1000)), x, x2, x3, x4] [] h' n P := by
    intro e
    induction e with
    | zero =>
      intro a rs h' iv' ia' x x2 x3 x4 he ha hn m b h5 h6 hj hja
      exact absurd b.2.1 (by omega)
    | succ e ih =>
      intro a rs h' iv' ia' x x2 x3 x4 he ha hn m b h5 h6 hj hja
      have hY' : MoY iv' ia' ys := ⟨(hj 2 (by omega)).trans hY.1, y2, fun k v hv => by rw [hja 13 (by omega)]; exact hY.2.2 k v hv⟩
      rw [nrs] at hn
      have rest : ∀ full a1 v1 w1 h1 iv1, full = decide (rs.length = 40) → skp ys a < ys.length → MoK h0 h1 ad tg T iv1 ia' la → iv1 5 = nI a1 → iv1 6 = v1 → (∀ j, j ≠ 5 → j ≠ 6 → iv1 j = iv' j) → (v1 = -1 → a1 ≤ ys.length) → num_r ys (nI 0) (if full then -1 else nI 99) (skp ys a) a1 (-1) v1 w1 → ev_Run G l (d + 2) bc bs mMo_names 65 [some (.ref (ad 1000)), x, x2, x3, x4] [.int w1] h1 n P := by
        intro full a1 v1 w1 h1 iv1 hfu hlt m1 p1 f1 s1 l1 r1
        rw [if_neg (by omega), ← hfu] at hn
        have Y : ∀ iv2, (∀ j, j ≠ 5 → j ≠ 6 → iv2 j = iv' j) → MoY iv2 ia' ys := fun iv2 hh => hY'.keep (hh 2 (by omega) (by omega))
        have tr : ∀ {iv2 iv3 : Nat → Int32}, (∀ j, j ≠ 5 → j ≠ 6 → iv2 j = iv' j) → (∀ j, j ≠ 5 → j ≠ 6 → iv3 j = iv2 j) → (∀ j, j ≠ 5 → j ≠ 6 → iv3 j = iv' j) := fun a b j j1 j2 => (b j j1 j2).trans (a j j1 j2)
        refine ev_istore_n dMo_names_65 rfl (by decide) ?_
        refine ev_aload_n dMo_names_66 rfl rfl ?_
        refine ev_bipush (v := nI 58) dMo_names_67 (by decide) ?_
        refine cz_Mo_sign dMo_names_69 lMo_171 m1.2.1.1 (Nat.le_of_ble_eq_true rfl) (Mo_sign_ok (by decide) l1 m1 (Y _ s1) p1 f1 (fun h2 iv2 a2 v2 m2 p2 f2 s2 l2 r2 => ?_))
        have s2 := tr s1 s2
        refine ev_aload_n dMo_names_72 rfl rfl ?_
        refine ev_iconst (v := nI 0) dMo_names_73 (by decide) ?_
        refine ev_sipush (v := nI 999) dMo_names_74 (by decide) ?_
        refine cz_Mo_number dMo_names_77 lMo_168 m2.2.1.1 (Nat.le_of_ble_eq_true rfl) (Mo_number_ok l2 m2 (Y _ s2) p2 f2 (fun h3 iv3 a3 v3 w2 m3 p3 f3 s3 l3 r3 => ?_))
        have s3 := tr s2 s3
        refine ev_istore_n dMo_names_80 rfl (by decide) ?_
        refine ev_aload_n dMo_names_81 rfl rfl ?_
        refine ev_bipush (v := nI 45) dMo_names_82 (by decide) ?_
        refine cz_Mo_sign dMo_names_84 lMo_171 m3.2.1.1 (Nat.le_of_ble_eq_true rfl) (Mo_sign_ok (by decide) l3 m3 (Y _ s3) p3 f3 (fun h4 iv4 a4 v4 m4 p4 f4 s4 l4 r4 => ?_))
        have s4 := tr s3 s4
        refine ev_aload_n dMo_names_87 rfl rfl ?_
        refine ev_iload_n dMo_names_88 rfl rfl ?_
        refine ev_sipush (v := nI 999) dMo_names_89 (by decide) ?_
        refine cz_Mo_number dMo_names_92 lMo_168 m4.2.1.1 (Nat.le_of_ble_eq_true rfl) (Mo_number_ok l4 m4 (Y _ s4) p4 f4 (fun h5' iv5 a5 v5 w3 m5 p5 f5 s5 l5 r5 => ?_))
        have s5 := tr s4 s5
        refine ev_istore_n dMo_names_95 rfl (by decide) ?_
        refine ev_aload_n dMo_names_96 rfl rfl ?_
        refine ev_bipush (v := nI 44) dMo_names_97 (by decide) ?_
        refine cz_Mo_sign dMo_names_99 lMo_171 m5.2.1.1 (Nat.le_of_ble_eq_true rfl) (Mo_sign_ok (by decide) l5 m5 (Y _ s5) p5 f5 (fun h6' iv6 a6 v6 m6 p6 f6 s6 l6 r6 => ?_))
        have s6 := tr s5 s6
        refine ev_aload_n dMo_names_102 rfl rfl ?_
        refine ev_iconst (v := nI 0) dMo_names_103 (by decide) ?_
        refine ev_ldc (v := nI 999999) dMo_names_104 qMo_174 ?_
        refine cz_Mo_number dMo_names_106 lMo_168 m6.2.1.1 (Nat.le_of_ble_eq_true rfl) (Mo_number_ok l6 m6 (Y _ s6) p6 f6 (fun h7 iv7 a7 v7 w4 m7 p7 f7 s7 l7 r7 => ?_))
        have s7 := tr s6 s7
        refine ev_istore dMo_names_109 (by decide) ?_
        refine ev_aload_n dMo_names_111 rfl rfl ?_
        refine ev_bipush (v := nI 59) dMo_names_112 (by decide) ?_
        refine cz_Mo_sign dMo_names_114 lMo_171 m7.2.1.1 (Nat.le_of_ble_eq_true rfl) (Mo_sign_ok (by decide) l7 m7 (Y _ s7) p7 f7 (fun h8 iv8 a8 v8 m8 p8 f8 s8 l8 r8 => ?_))
        have s8 := tr s7 s8
        have ch := nru_chain2 (full := full) y2 (by omega) l1 l2 l3 l4 l5 l6 l7 r1 r2 r3 r4 r5 r6 r7 r8
        have b8 : iv8 4 = nI rs.length := (s8 4 (by omega) (by omega)).trans b.1
        refine ev_aload_n dMo_names_117 rfl rfl ?_
        refine ev_get dMo_names_118 fMo_154 m8.2.1.1 rfl ?_
        refine ev_iconst (v := -1) dMo_names_121 (by decide) ?_
        refine ev_icmp_ne (tgt := 176) dMo_names_122 (by decide) (fun c122 => ?_) (fun c122 => ?_)
        · skip
          refine ev_goto (tgt := 15) dMo_names_176 (by decide) ?_
          rcases hr : nru ys full (skp ys a) with e' | p
          · (rw [hr] at ch hn; exact out _ _ _ rs v8 _ _ _ _ m8 ⟨b8, b.2⟩ f8 (fun z => c122 (f8.trans z)) (by rw [hn]; exact ch) (fun j hj' => (s8 j (by omega) (by omega)).trans (hj j hj')) hja)
          · (rw [hr] at ch; exact absurd (f8.trans ch.1) c122)
        · have v8e : v8 = -1 := f8.symm.trans c122
          obtain ⟨p, hr, hp⟩ : ∃ p, nru ys full (skp ys a) = .inr p ∧ p = ((w1, w2, w3, w4), a8) := (by rcases hr : nru ys full (skp ys a) with e' | p; (rw [hr] at ch; exact absurd (ch.1.symm.trans v8e) (nI_ne1 (by have := ch.2; omega))); (rw [hr] at ch; exact ⟨p, rfl, ch.2⟩))
          have r40 : rs.length < 40 := (by rcases Nat.lt_or_ge rs.length 40 with z | z; exact z; (exfalso; have e40 : rs.length = 40 := (by have := b.2.1; omega); rw [hfu, decide_eq_true e40] at hr; obtain ⟨e', he'⟩ := nru_full (ys := ys) (a := skp ys a); rw [he'] at hr; cases hr))
          have hn2 : nms ys = nrs ys e (skp ys a8) (rs ++ [(w1, w2, w3, w4)]) := (by rw [hn, hr, hp]; rfl)
          refine ev_aload_n dMo_names_125 rfl rfl ?_
          refine ev_get dMo_names_126 fMo_63 m8.2.1.1 rfl ?_
          refine ev_aload_n dMo_names_129 rfl rfl ?_
          refine ev_get dMo_names_130 fMo_164 m8.2.1.1 rfl ?_
          refine ev_iload_n dMo_names_133 rfl rfl ?_
          refine ev_iast dMo_names_134 m8.2.1.g18 rfl (b8) (by omega) (by decide) ?_
          refine mo_ist (j := 18) (t := 0) (N := 40) m8 (by decide) (fun h134 m134 => ?_)
          refine ev_aload_n dMo_names_135 rfl rfl ?_
          refine ev_get dMo_names_136 fMo_66 m134.2.1.1 rfl ?_
          refine ev_aload_n dMo_names_139 rfl rfl ?_
          refine ev_get dMo_names_140 fMo_164 m134.2.1.1 rfl ?_
          refine ev_iload_n dMo_names_143 rfl rfl ?_
          refine ev_iast dMo_names_144 m134.2.1.g19 rfl (b8) (by omega) (by decide) ?_
          refine mo_ist (j := 19) (t := 0) (N := 40) m134 (by decide) (fun h144 m144 => ?_)
          refine ev_aload_n dMo_names_145 rfl rfl ?_
          refine ev_get dMo_names_146 fMo_69 m144.2.1.1 rfl ?_
          refine ev_aload_n dMo_names_149 rfl rfl ?_
          refine ev_get dMo_names_150 fMo_164 m144.2.1.1 rfl ?_
          refine ev_iload_n dMo_names_153 rfl rfl ?_
          refine ev_iast dMo_names_154 m144.2.1.g20 rfl (b8) (by omega) (by decide) ?_
          refine mo_ist (j := 20) (t := 0) (N := 40) m144 (by decide) (fun h154 m154 => ?_)
          refine ev_aload_n dMo_names_155 rfl rfl ?_
          refine ev_get dMo_names_156 fMo_72 m154.2.1.1 rfl ?_
          refine ev_aload_n dMo_names_159 rfl rfl ?_
          refine ev_get dMo_names_160 fMo_164 m154.2.1.1 rfl ?_
          refine ev_iload dMo_names_163 rfl ?_
          refine ev_iast dMo_names_165 m154.2.1.g21 rfl (b8) (by omega) (by decide) ?_
          refine mo_ist (j := 21) (t := 0) (N := 40) m154 (by decide) (fun h165 m165 => ?_)
          refine ev_aload_n dMo_names_166 rfl rfl ?_
          refine ev_dup dMo_names_167 rfl ?_
          refine ev_get dMo_names_168 fMo_164 m165.2.1.1 rfl ?_
          refine ev_iconst (v := nI 1) dMo_names_171 (by decide) ?_
          refine ev_iadd dMo_names_172 ?_
          refine ev_top (y := nI (rs.length + 1)) (by rw [b8]; exact nI_add _ _) ?_
          refine ev_put dMo_names_173 fMo_164 tMo_21 m165.2.1.1 rfl rfl (Nat.le_of_ble_eq_true rfl) ?_
          refine mo_put m165 Mo_c4 (fun h173 m173 => ?_)
          refine ev_goto (tgt := 15) dMo_names_176 (by decide) ?_
          refine ih a8 (rs ++ [(w1, w2, w3, w4)]) _ _ _ _ _ _ _ (by simp; omega) (l8 v8e) hn2 m173 ⟨?_, ?_, fun k u hu => ?_⟩ ((upv_n (by omega)).trans p8) ((upv_n (by omega)).trans c122) (fun j hj' => ?_) (fun j hj' => ?_)
          · exact upv_s.trans (by simp)
          · simp; omega
          · show upd (ia' 18) rs.length w1 k = _ ∧ upd (ia' 19) rs.length w2 k = _ ∧ upd (ia' 20) rs.length w3 k = _ ∧ upd (ia' 21) rs.length w4 k = _; rcases Nat.lt_or_ge k rs.length with q | q; (rw [List.getElem?_append_left q] at hu; rw [pk_un (by omega), pk_un (by omega), pk_un (by omega), pk_un (by omega)]; exact b.2.2 k u hu); (have hk1 := (List.getElem?_eq_some_iff.mp hu).1; have hk2 : k = rs.length := (by simp at hk1; omega); subst hk2; simp at hu; subst hu; exact ⟨pk_us, pk_us, pk_us, pk_us⟩)
          · rw [upv_n (by omega)]; exact (s8 j (by omega) (by omega)).trans (hj j hj')
          · rw [upv_n (by omega), upv_n (by omega), upv_n (by omega), upv_n (by omega)]; exact hja j hj'
      have c1 : ∀ {iv1 iv2 : Nat → Int32}, (∀ j, j ≠ 5 → iv1 j = iv' j) → (∀ j, j ≠ 5 → j ≠ 6 → iv2 j = iv1 j) → (∀ j, j ≠ 5 → j ≠ 6 → iv2 j = iv' j) := fun s1 s2 j j1 j2 => (s2 j j1 j2).trans (s1 j j1)
      refine ev_aload_n dMo_names_15 rfl rfl ?_
      refine ev_get dMo_names_16 fMo_154 m.2.1.1 rfl ?_
      refine ev_iconst (v := -1) dMo_names_19 (by decide) ?_
      refine ev_icmp_ne (tgt := 179) dMo_names_20 (by decide) (fun c20 => ?_) (fun c20 => ?_)
      · exact absurd h6 c20
        
      · skip
        refine ev_aload_n dMo_names_23 rfl rfl ?_
        refine cz_Mo_skip dMo_names_24 lMo_157 m.2.1.1 (Nat.le_of_ble_eq_true rfl) (Mo_skip_ok ha m hY' h5 (fun h1 iv1 m1 p1 s1 q1 => ?_) (fun h1 iv1 m1 p1 s1 q1 => ?_))
        · have r4 : iv1 4 = nI rs.length := (s1 4 (by omega)).trans b.1
          have f1 : iv1 6 = -1 := (s1 6 (by omega)).trans h6
          have b40 := b.2.1
          refine ev_if_eq (tgt := 179) dMo_names_27 (by decide) (fun q9 => absurd q9 (by decide)) (fun _ => ?_)
          refine ev_aload_n dMo_names_30 rfl rfl ?_
          refine ev_aload_n dMo_names_31 rfl rfl ?_
          refine ev_get dMo_names_32 fMo_164 m1.2.1.1 rfl ?_
          refine ev_bipush (v := nI 40) dMo_names_35 (by decide) ?_
          refine ev_icmp_ne (tgt := 45) dMo_names_37 (by decide) (fun c37 => ?_) (fun c37 => ?_)
          · refine ev_iconst (v := nI 0) dMo_names_45 (by decide) ?_
            refine ev_aload_n dMo_names_46 rfl rfl ?_
            refine ev_get dMo_names_47 fMo_164 m1.2.1.1 rfl ?_
            refine ev_bipush (v := nI 40) dMo_names_50 (by decide) ?_
            refine ev_icmp_ne (tgt := 60) dMo_names_52 (by decide) (fun c52 => ?_) (fun c52 => ?_)
            · skip
              refine ev_bipush (v := nI 99) dMo_names_60 (by decide) ?_
              refine cz_Mo_number dMo_names_62 lMo_168 m1.2.1.1 (Nat.le_of_ble_eq_true rfl) (Mo_number_ok (fun _ => Nat.le_of_lt q1) m1 (hY'.keep (s1 2 (by omega))) p1 f1 (fun h2 iv2 a2 v2 w2 m2 p2 f2 s2 l2 r2 => ?_))
              exact rest false a2 v2 w2 h2 iv2 (decide_eq_false (fun z => c37 (by rw [r4, z]))).symm q1 m2 p2 f2 (c1 s1 s2) l2 (num_full (full := false) (by first | rfl | decide) (by first | rfl | decide) r2)
            · exact absurd c52 c37
              
          · refine ev_ldc (v := nI 1000000) dMo_names_40 qMo_167 ?_
            refine ev_goto (tgt := 46) dMo_names_42 (by decide) ?_
            refine ev_aload_n dMo_names_46 rfl rfl ?_
            refine ev_get dMo_names_47 fMo_164 m1.2.1.1 rfl ?_
            refine ev_bipush (v := nI 40) dMo_names_50 (by decide) ?_
            refine ev_icmp_ne (tgt := 60) dMo_names_52 (by decide) (fun c52 => ?_) (fun c52 => ?_)
            · exact absurd c37 c52
              
            · skip
              refine ev_ldc (v := nI 1000000) dMo_names_55 qMo_167 ?_
              refine ev_goto (tgt := 62) dMo_names_57 (by decide) ?_
              refine cz_Mo_number dMo_names_62 lMo_168 m1.2.1.1 (Nat.le_of_ble_eq_true rfl) (Mo_number_ok (fun _ => Nat.le_of_lt q1) m1 (hY'.keep (s1 2 (by omega))) p1 f1 (fun h2 iv2 a2 v2 w2 m2 p2 f2 s2 l2 r2 => ?_))
              exact rest true a2 v2 w2 h2 iv2 (decide_eq_true ((nI_eq (by omega) (by decide)).mp (r4.symm.trans c37))).symm q1 m2 p2 f2 (c1 s1 s2) l2 (num_full (full := true) (by first | rfl | decide) (by first | rfl | decide) r2)
        · refine ev_if_eq (tgt := 179) dMo_names_27 (by decide) (fun _ => ?_) (fun q9 => absurd (by decide) q9)
          exact fin _ _ _ rs (-1) _ _ _ _ m1 ⟨(s1 4 (by omega)).trans b.1, b.2⟩ ((s1 6 (by omega)).trans h6) (by rw [hn, if_pos (by omega)]; exact ⟨rfl, rfl⟩) (fun j hj' => (s1 j (by omega)).trans (hj j hj')) hja
  refine ev_aload_n dMo_names_0 rfl rfl ?_
  refine ev_iconst (v := nI 0) dMo_names_1 (by decide) ?_
  refine ev_put dMo_names_2 fMo_151 tMo_26 hM.2.1.1 rfl rfl (Nat.le_of_ble_eq_true rfl) ?_
  refine mo_put hM Mo_c5 (fun h2 m2 => ?_)
  refine ev_aload_n dMo_names_5 rfl rfl ?_
  refine ev_iconst (v := -1) dMo_names_6 (by decide) ?_
  refine ev_put dMo_names_7 fMo_154 tMo_27 m2.2.1.1 rfl rfl (Nat.le_of_ble_eq_true rfl) ?_
  refine mo_put m2 Mo_c6 (fun h7 m7 => ?_)
  refine ev_aload_n dMo_names_10 rfl rfl ?_
  refine ev_iconst (v := nI 0) dMo_names_11 (by decide) ?_
  refine ev_put dMo_names_12 fMo_164 tMo_21 m7.2.1.1 rfl rfl (Nat.le_of_ble_eq_true rfl) ?_
  refine mo_put m7 Mo_c4 (fun h12 m12 => ?_)
  exact loop 41 0 [] _ _ _ _ _ _ _ (by simp) (by omega) rfl m12 ⟨upv_s, by simp, fun k u hu => by simp at hu⟩ ((upv_n (by omega)).trans ((upv_n (by omega)).trans upv_s)) ((upv_n (by omega)).trans upv_s) (fun j hj => by rw [upv_n (by omega), upv_n (by omega), upv_n (by omega)]) (fun _ _ => rfl)
end MOU6
