/-! the reference: how things change -/
def mo_ag (i : Nat) (ia ia' : Nat → Nat → Int32) (la la' : Nat → Nat → Int64) : Prop := ∀ k, k ≠ i → (ia' 1 k = ia 1 k ∧ ia' 2 k = ia 2 k ∧ (∀ c, c < 81 → ia' 3 (81 * k + c) = ia 3 (81 * k + c) ∧ la' 4 (81 * k + c) = la 4 (81 * k + c)) ∧ la' 5 k = la 5 k ∧ ia' 6 k = ia 6 k ∧ ia' 7 k = ia 7 k ∧ ia' 8 k = ia 8 k ∧ ia' 9 k = ia 9 k ∧ la' 10 k = la 10 k)
def mo_rest (iv iv' : Nat → Int32) (ia ia' : Nat → Nat → Int32) (la la' : Nat → Nat → Int64) : Prop := (∀ j, 13 ≤ j → ia' j = ia j ∧ la' j = la j) ∧ (∀ j, 2 ≤ j → iv' j = iv j)
theorem mo_rest.rf {iv : Nat → Int32} {ia : Nat → Nat → Int32} {la : Nat → Nat → Int64} : mo_rest iv iv ia ia la la := ⟨fun _ _ => ⟨rfl, rfl⟩, fun _ _ => rfl⟩
theorem mo_rest.tr {iv iv' iv2 : Nat → Int32} {ia ia' ia2 : Nat → Nat → Int32} {la la' la2 : Nat → Nat → Int64} (a : mo_rest iv iv' ia ia' la la') (b : mo_rest iv' iv2 ia' ia2 la' la2) : mo_rest iv iv2 ia ia2 la la2 := ⟨fun j hj => ⟨(b.1 j hj).1.trans (a.1 j hj).1, (b.1 j hj).2.trans (a.1 j hj).2⟩, fun j hj => (b.2 j hj).trans (a.2 j hj)⟩
theorem mo_ag.tr {i : Nat} {ia ia' ia2 : Nat → Nat → Int32} {la la' la2 : Nat → Nat → Int64} (a : mo_ag i ia ia' la la') (b : mo_ag i ia' ia2 la' la2) : mo_ag i ia ia2 la la2 := by
  intro k hk
  obtain ⟨a1, a2, a3, a4, a5, a6, a7, a8, a9⟩ := a k hk
  obtain ⟨b1, b2, b3, b4, b5, b6, b7, b8, b9⟩ := b k hk
  exact ⟨b1.trans a1, b2.trans a2, fun c hc => ⟨(b3 c hc).1.trans (a3 c hc).1, (b3 c hc).2.trans (a3 c hc).2⟩, b4.trans a4, b5.trans a5, b6.trans a6, b7.trans a7, b8.trans a8, b9.trans a9⟩
theorem mo_ag.t {i k : Nat} {t : sT} {ia ia' : Nat → Nat → Int32} {la la' : Nat → Nat → Int64} (a : mo_ag i ia ia' la la') (hk : k ≠ i) (hl : (t_ls t).length ≤ 80) (h : mo_t k t ia la) : mo_t k t ia' la' := by
  obtain ⟨a1, a2, a3, a4, a5, a6, a7, a8, a9⟩ := a k hk
  obtain ⟨b1, b2, b3, b4, b5, b6, b7, b8, b9⟩ := h
  refine ⟨a1.trans b1, a2.trans b2, fun c p hp => ?_, a4.trans b4, a5.trans b5, a6.trans b6, a7.trans b7, a8.trans b8, a9.trans b9⟩
  have hc : c < (t_ls t).length := (List.getElem?_eq_some_iff.mp hp).1
  exact ⟨(a3 c (by omega)).1.trans (b3 c p hp).1, (a3 c (by omega)).2.trans (b3 c p hp).2⟩
theorem MoT_set {i : Nat} {t' : sT} {iv iv' : Nat → Int32} {ia ia' : Nat → Nat → Int32} {la la' : Nat → Nat → Int64} {ts : List sT} (hT : MoT iv ia la ts) (hi : i < ts.length) (h0 : iv' 0 = iv 0) (ha : mo_ag i ia ia' la la') (ht : mo_t i t' ia' la') (hl : (t_ls t').length ≤ 80) (ho : t_ok t') : MoT iv' ia' la' (ts.set i t') := by
  obtain ⟨m1, m2, m3, m4⟩ := hT
  refine ⟨by rw [h0, m1, List.length_set], by rw [List.length_set]; exact m2, fun k t hk => ?_, fun k k1 k2 => ?_⟩
  · by_cases e : k = i
    · subst e
      rw [List.getElem?_set_self hi] at hk
      cases hk
      exact ⟨ht, hl, ho⟩
    · rw [List.getElem?_set_ne (Ne.symm e)] at hk
      obtain ⟨q1, q2, q3⟩ := m3 k t hk
      exact ⟨ha.t e q2 q1, q2, q3⟩
  · rw [List.length_set] at k1
    obtain ⟨a1, a2, a3, a4, a5, a6, a7, a8, a9⟩ := ha k (by omega)
    obtain ⟨b1, b2, b3, b4⟩ := m4 k k1 k2
    exact ⟨a2.trans b1, a4.trans b2, a5.trans b3, a6.trans b4⟩
theorem MoT_add {t' : sT} {iv iv' : Nat → Int32} {ia ia' : Nat → Nat → Int32} {la la' : Nat → Nat → Int64} {ts : List sT} (hT : MoT iv ia la ts) (hi : ts.length < 70) (h0 : iv' 0 = nI (ts.length + 1)) (ha : mo_ag ts.length ia ia' la la') (ht : mo_t ts.length t' ia' la') (hl : (t_ls t').length ≤ 80) (ho : t_ok t') : MoT iv' ia' la' (ts ++ [t']) := by
  obtain ⟨m1, m2, m3, m4⟩ := hT
  refine ⟨by rw [h0, List.length_append]; rfl, by rw [List.length_append]; exact hi, fun k t hk => ?_, fun k k1 k2 => ?_⟩
  · rcases Nat.lt_or_ge k ts.length with e | e
    · rw [List.getElem?_append_left e] at hk
      obtain ⟨q1, q2, q3⟩ := m3 k t hk
      exact ⟨ha.t (by omega) q2 q1, q2, q3⟩
    · have hk1 := (List.getElem?_eq_some_iff.mp hk).1
      have : k = ts.length := by simp at hk1; omega
      subst this
      simp at hk
      subst hk
      exact ⟨ht, hl, ho⟩
  · rw [List.length_append] at k1
    have k1 : ts.length + 1 ≤ k := k1
    obtain ⟨a1, a2, a3, a4, a5, a6, a7, a8, a9⟩ := ha k (by omega)
    obtain ⟨b1, b2, b3, b4⟩ := m4 k (by omega) k2
    exact ⟨a2.trans b1, a4.trans b2, a5.trans b3, a6.trans b4⟩
section MO2
variable {G : xG} {l : Launch} {d bc bs : Nat} {h h0 : xH} {n : Nat} {P : Option Value → xH → Nat → Prop} {ad tg : Nat → Nat} {T : Nat} {iv : Nat → Int32} {ia : Nat → Nat → Int32} {la : Nat → Nat → Int64} {ts : List sT}
set_option maxRecDepth 20000 in
set_option maxHeartbeats 1000000 in
theorem Mo_make_ok {k p y : Int32} {g : Int64} (hM : MoK h0 h ad tg T iv ia la) (hT : MoT iv ia la ts) (hl : ts.length < 70) (hk : ∀ h' iv' ia' la', MoK h0 h' ad tg T iv' ia' la' → mo_rest iv iv' ia ia' la la' → iv' 0 = nI (ts.length + 1) → iv' 1 = iv 1 → mo_ag ts.length ia ia' la la' → (∀ j, j ≠ 1 → j ≠ 8 → j ≠ 9 → ia' j = ia j) → (∀ j, j ≠ 10 → la' j = la j) → ia' 1 ts.length = k → ia' 8 ts.length = p → ia' 9 ts.length = y → la' 10 ts.length = g → P (some (.int (nI ts.length))) h' n) : ev_Run G l d bc bs mMo_make 0 [some (.ref (ad 1000)), some (.int k), some (.int p), some (.int y), some (.long g), none, none] [] h n P := by
  have e0 := hT.1
  refine ev_aload_n dMo_make_0 rfl rfl ?_
  refine ev_get dMo_make_1 fMo_90 hM.2.1.1 rfl ?_
  refine ev_istore dMo_make_4 (by decide) ?_
  refine ev_aload_n dMo_make_6 rfl rfl ?_
  refine ev_dup dMo_make_7 rfl ?_
  refine ev_get dMo_make_8 fMo_90 hM.2.1.1 rfl ?_
  refine ev_iconst (v := nI 1) dMo_make_11 (by decide) ?_
  refine ev_iadd dMo_make_12 ?_
  refine ev_top (y := nI (ts.length + 1)) (by rw [e0]; exact nI_add _ _) ?_
  refine ev_put dMo_make_13 fMo_90 tMo_0 hM.2.1.1 rfl rfl (Nat.le_of_ble_eq_true rfl) ?_
  refine mo_put hM Mo_c0 (fun h13 m13 => ?_)
  refine ev_aload_n dMo_make_16 rfl rfl ?_
  refine ev_get dMo_make_17 fMo_7 m13.2.1.1 rfl ?_
  refine ev_iload dMo_make_20 rfl ?_
  refine ev_iload_n dMo_make_22 rfl rfl ?_
  refine ev_iast dMo_make_23 m13.2.1.g1 rfl (e0) (by omega) (by decide) ?_
  refine mo_ist (j := 1) (t := 0) (N := 70) m13 (by decide) (fun h23 m23 => ?_)
  refine ev_aload_n dMo_make_24 rfl rfl ?_
  refine ev_get dMo_make_25 fMo_33 m23.2.1.1 rfl ?_
  refine ev_iload dMo_make_28 rfl ?_
  refine ev_iload_n dMo_make_30 rfl rfl ?_
  refine ev_iast dMo_make_31 m23.2.1.g8 rfl (e0) (by omega) (by decide) ?_
  refine mo_ist (j := 8) (t := 0) (N := 70) m23 (by decide) (fun h31 m31 => ?_)
  refine ev_aload_n dMo_make_32 rfl rfl ?_
  refine ev_get dMo_make_33 fMo_36 m31.2.1.1 rfl ?_
  refine ev_iload dMo_make_36 rfl ?_
  refine ev_iload_n dMo_make_38 rfl rfl ?_
  refine ev_iast dMo_make_39 m31.2.1.g9 rfl (e0) (by omega) (by decide) ?_
  refine mo_ist (j := 9) (t := 0) (N := 70) m31 (by decide) (fun h39 m39 => ?_)
  refine ev_aload_n dMo_make_40 rfl rfl ?_
  refine ev_get dMo_make_41 fMo_39 m39.2.1.1 rfl ?_
  refine ev_iload dMo_make_44 rfl ?_
  refine ev_lload dMo_make_46 rfl ?_
  refine ev_last dMo_make_48 m39.2.1.g10 rfl (e0) (by omega) (by decide) ?_
  refine mo_lst (j := 10) (N := 70) m39 (by decide) (fun h48 m48 => ?_)
  refine ev_iload dMo_make_49 rfl ?_
  refine ev_iret dMo_make_51 rfl rfl ?_
  rw [e0]
  refine hk _ _ _ _ m48 ⟨fun j hj => ⟨?_, ?_⟩, fun j hj => ?_⟩ upv_s ?_ (fun k' hk' => ?_) (fun j j1 j2 j3 => ?_) (fun j j1 => ?_) ?_ ?_ ?_ ?_
  · rw [upv_n (by omega), upv_n (by omega), upv_n (by omega)]
  · exact upv_n (by omega)
  · exact upv_n (by omega)
  · exact upv_n (by omega)
  · simp [upv, upd, vp_updL, hk']
  · rw [upv_n j3, upv_n j2, upv_n j1]
  · exact upv_n j1
  · simp [upv, upd]
  · simp [upv, upd]
  · simp [upv, upd]
  · simp [upv, vp_updL]
theorem upd_s {f : Nat → Int32} {j : Nat} {v : Int32} : upd f j v j = v := pk_us
theorem mo_new {k p y g : Nat} {iv : Nat → Int32} {ia ia' : Nat → Nat → Int32} {la la' : Nat → Nat → Int64} (hT : MoT iv ia la ts) (hl : ts.length < 70) (j1 : ∀ j, j ≠ 1 → j ≠ 8 → j ≠ 9 → ia' j = ia j) (j2 : ∀ j, j ≠ 10 → la' j = la j) (a1 : ia' 1 ts.length = nI k) (a2 : ia' 8 ts.length = nI p) (a3 : ia' 9 ts.length = nI y) (a4 : la' 10 ts.length = lN g) : mo_t ts.length (k, p, y, g, 0, 0, 0, []) ia' la' := by
  obtain ⟨b1, b2, b3, b4⟩ := hT.2.2.2 ts.length (by omega) hl
  exact ⟨a1, by rw [j1 2 (by omega) (by omega) (by omega)]; exact b1, fun c q hq => absurd hq (by show ¬ ([] : sL)[c]? = some q; simp), by rw [j2 5 (by omega)]; exact b2, by rw [j1 6 (by omega) (by omega) (by omega)]; exact b3, by rw [j1 7 (by omega) (by omega) (by omega)]; exact b4, a2, a3, a4⟩
set_option maxRecDepth 20000 in
set_option maxHeartbeats 1000000 in
theorem Mo_batch_ok (hM : MoK h0 h ad tg T iv ia la) (hT : MoT iv ia la ts) (hk : ∀ h' iv' ia' la', MoK h0 h' ad tg T iv' ia' la' → MoT iv' ia' la' (batch_s ts).2 → mo_rest iv iv' ia ia' la la' → P (some (.int (batch_s ts).1)) h' n) : ev_Run G l (d + 1) bc bs mMo_batch 0 [some (.ref (ad 1000))] [] h n P := by
  have e0 := hT.1
  have h70 := hT.2.1
  refine ev_aload_n dMo_batch_0 rfl rfl ?_
  refine ev_get dMo_batch_1 fMo_90 hM.2.1.1 rfl ?_
  refine ev_bipush (v := nI 70) dMo_batch_4 (by decide) ?_
  refine ev_icmp_ne (tgt := 13) dMo_batch_6 (by decide) (fun c6 => ?_) (fun c6 => ?_)
  · have hlt : ts.length < 70 := (by rcases Nat.lt_or_ge ts.length 70 with z | z; exact z; exact absurd (by rw [e0]; congr 1; omega) c6)
    rw [batch_s, if_pos hlt] at hk
    refine ev_aload_n dMo_batch_13 rfl rfl ?_
    refine ev_iconst (v := nI 2) dMo_batch_14 (by decide) ?_
    refine ev_iconst (v := nI 0) dMo_batch_15 (by decide) ?_
    refine ev_iconst (v := nI 0) dMo_batch_16 (by decide) ?_
    refine ev_lconst (v := lN 0) dMo_batch_17 (by decide) ?_
    refine cz_Mo_make dMo_batch_18 lMo_101 hM.2.1.1 (Nat.le_of_ble_eq_true rfl) (Mo_make_ok (k := nI 2) (p := nI 0) (y := nI 0) (g := lN 0) hM hT hlt (fun h1 iv1 ia1 la1 m1 r1 v0 v1 ag j1 j2 a1 a2 a3 a4 => ?_))
    refine ev_iret dMo_batch_21 rfl rfl ?_
    exact hk _ _ _ _ m1 (MoT_add hT hlt v0 ag (mo_new hT hlt j1 j2 a1 a2 a3 a4) (Nat.zero_le 80) (t_ok_mk (by omega) (by omega) (by omega) (by omega) (by omega) (by omega) (by omega) (by intro r hr; simp at hr) (by intro r hr; simp at hr) trivial (by omega))) r1
  · have hge : ¬ ts.length < 70 := fun z => absurd (show nI ts.length = nI 70 by rw [← e0]; exact c6) (fun q => absurd ((nI_eq (by omega) (by decide)).mp q) (by omega))
    rw [batch_s, if_neg hge] at hk
    refine ev_iconst (v := -1) dMo_batch_9 (by decide) ?_
    refine ev_goto (tgt := 21) dMo_batch_10 (by decide) ?_
    refine ev_iret dMo_batch_21 rfl rfl ?_
    exact hk _ _ _ _ hM hT mo_rest.rf
abbrev haul_ia (ia : Nat → Nat → Int32) (len : Nat) : Nat → Nat → Int32 := upv (upv ia 2 (upd (ia 2) len (nI 1))) 3 (upd (upv ia 2 (upd (ia 2) len (nI 1)) 3) (81 * len) (nI len))
abbrev haul_la (la : Nat → Nat → Int64) (len : Nat) (g : Int64) : Nat → Nat → Int64 := upv la 4 (vp_updL (la 4) (81 * len) g)
theorem haul_ag {len : Nat} {g : Int64} : mo_ag len ia (haul_ia ia len) la (haul_la la len g) := by
  intro k hk
  refine ⟨rfl, ?_, fun c hc => ⟨?_, ?_⟩, rfl, rfl, rfl, rfl, rfl, rfl⟩
  · show upd (ia 2) len (nI 1) k = ia 2 k
    exact pk_un (by omega)
  · show upd (ia 3) (81 * len) (nI len) (81 * k + c) = ia 3 (81 * k + c)
    exact pk_un (by omega)
  · show vp_updL (la 4) (81 * len) g (81 * k + c) = la 4 (81 * k + c)
    exact pk_uLn (by omega)
theorem haul_t {len p y g : Nat} (h : mo_t len (1, p, y, g, 0, 0, 0, []) ia la) : mo_t len (1, p, y, g, 0, 0, 0, [(len, g)]) (haul_ia ia len) (haul_la la len (lN g)) := by
  obtain ⟨b1, b2, b3, b4, b5, b6, b7, b8, b9⟩ := h
  refine ⟨b1, ?_, fun c q hq => ?_, b4, b5, b6, b7, b8, b9⟩
  · show upd (ia 2) len (nI 1) len = nI 1
    exact pk_us
  · have hc : c = 0 := by
      have := (List.getElem?_eq_some_iff.mp hq).1
      have : c < 1 := this
      omega
    subst hc
    cases hq
    exact ⟨pk_us, pk_uLs⟩
theorem haul_rest {len : Nat} {g : Int64} : mo_rest iv iv ia (haul_ia ia len) la (haul_la la len g) := ⟨fun j hj => ⟨by rw [haul_ia, upv_n (by omega), upv_n (by omega)], upv_n (by omega)⟩, fun _ _ => rfl⟩
set_option maxRecDepth 20000 in
set_option maxHeartbeats 1000000 in
theorem Mo_haul_ok {g : Int64} {p y : Int32} (hM : MoK h0 h ad tg T iv ia la) (hT : MoT iv ia la ts) (hk : ∀ h' iv' ia' la', MoK h0 h' ad tg T iv' ia' la' → MoT iv' ia' la' (haul_s ts g p y).2 → mo_rest iv iv' ia ia' la la' → P (some (.int (haul_s ts g p y).1)) h' n) : ev_Run G l (d + 1) bc bs mMo_haul 0 [some (.ref (ad 1000)), some (.long g), none, some (.int p), some (.int y), none] [] h n P := by
  have e0 := hT.1
  have h70 := hT.2.1
  have refuse : ¬ ((lN 1 ≤ g ∧ g ≤ lN 1000000000) ∧ (¬ p < 0 ∧ p ≤ nI 999) ∧ (¬ y < 0 ∧ y ≤ nI 99999) ∧ ts.length < 70) → P (some (.int (-1))) h n := by
    intro hc
    have := hk h iv ia la hM
    rw [haul_s, if_neg hc] at this
    exact this hT mo_rest.rf
  have mul81 : nI 81 * nI ts.length = nI (81 * ts.length) := nI_mul _ _
  refine ev_lload_n dMo_haul_0 rfl rfl ?_
  refine ev_lconst (v := lN 1) dMo_haul_1 (by decide) ?_
  refine ev_lcmp_lt (tgt := 46) dMo_haul_2 dMo_haul_3 (by decide) (fun c2 => ?_) (fun c2 => ?_)
  · refine ev_iconst (v := -1) dMo_haul_46 (by decide) ?_
    refine ev_iret dMo_haul_47 rfl rfl ?_
    exact refuse (fun z => lI_le_nlt z.1.1 c2)
  · refine ev_lload_n dMo_haul_6 rfl rfl ?_
    refine ev_ldc2 (v := lN 1000000000) dMo_haul_7 qMo_98 ?_
    refine ev_lcmp_gt (tgt := 46) dMo_haul_10 dMo_haul_11 (by decide) (fun c10 => ?_) (fun c10 => ?_)
    · refine ev_iconst (v := -1) dMo_haul_46 (by decide) ?_
      refine ev_iret dMo_haul_47 rfl rfl ?_
      exact refuse (fun z => lI_le_nlt z.1.2 c10)
    · refine ev_iload_n dMo_haul_14 rfl rfl ?_
      refine ev_if_lt (tgt := 46) dMo_haul_15 (by decide) (fun c15 => ?_) (fun c15 => ?_)
      · refine ev_iconst (v := -1) dMo_haul_46 (by decide) ?_
        refine ev_iret dMo_haul_47 rfl rfl ?_
        exact refuse (fun z => z.2.1.1 c15)
      · refine ev_iload_n dMo_haul_18 rfl rfl ?_
        refine ev_sipush (v := nI 999) dMo_haul_19 (by decide) ?_
        refine ev_icmp_gt (tgt := 46) dMo_haul_22 (by decide) (fun c22 => ?_) (fun c22 => ?_)
        · refine ev_iconst (v := -1) dMo_haul_46 (by decide) ?_
          refine ev_iret dMo_haul_47 rfl rfl ?_
          exact refuse (fun z => iI_le_nlt z.2.1.2 c22)
        · refine ev_iload dMo_haul_25 rfl ?_
          refine ev_if_lt (tgt := 46) dMo_haul_27 (by decide) (fun c27 => ?_) (fun c27 => ?_)
          · refine ev_iconst (v := -1) dMo_haul_46 (by decide) ?_
            refine ev_iret dMo_haul_47 rfl rfl ?_
            exact refuse (fun z => z.2.2.1.1 c27)
          · refine ev_iload dMo_haul_30 rfl ?_
            refine ev_ldc (v := nI 99999) dMo_haul_32 qMo_100 ?_
            refine ev_icmp_gt (tgt := 46) dMo_haul_34 (by decide) (fun c34 => ?_) (fun c34 => ?_)
            · refine ev_iconst (v := -1) dMo_haul_46 (by decide) ?_
              refine ev_iret dMo_haul_47 rfl rfl ?_
              exact refuse (fun z => iI_le_nlt z.2.2.1.2 c34)
            · refine ev_aload_n dMo_haul_37 rfl rfl ?_
              refine ev_get dMo_haul_38 fMo_90 hM.2.1.1 rfl ?_
              refine ev_bipush (v := nI 70) dMo_haul_41 (by decide) ?_
              refine ev_icmp_ne (tgt := 48) dMo_haul_43 (by decide) (fun c43 => ?_) (fun c43 => ?_)
              · have hlt : ts.length < 70 := (by rcases Nat.lt_or_ge ts.length 70 with z | z; exact z; exact absurd (by rw [e0]; congr 1; omega) c43)
                rw [haul_s, if_pos ⟨⟨lI_nlt c2, lI_nlt c10⟩, ⟨c15, iI_nlt c22⟩, ⟨c27, iI_nlt c34⟩, hlt⟩] at hk
                obtain ⟨p', hp', rfl⟩ := iI_lim (by decide) c15 (iI_nlt c22)
                obtain ⟨y', hy', rfl⟩ := iI_lim (by decide) c27 (iI_nlt c34)
                obtain ⟨g', hg1, hg2, rfl⟩ := lL_in (by decide) (lI_nlt c2) (lI_nlt c10)
                rw [nI_clamp (by omega), nI_clamp (by omega), gN_lN (by omega)] at hk
                refine ev_aload_n dMo_haul_48 rfl rfl ?_
                refine ev_iconst (v := nI 1) dMo_haul_49 (by decide) ?_
                refine ev_iload_n dMo_haul_50 rfl rfl ?_
                refine ev_iload dMo_haul_51 rfl ?_
                refine ev_lload_n dMo_haul_53 rfl rfl ?_
                refine cz_Mo_make dMo_haul_54 lMo_101 hM.2.1.1 (Nat.le_of_ble_eq_true rfl) (Mo_make_ok (k := nI 1) hM hT hlt (fun h1 iv1 ia1 la1 m1 r1 v0 v1 ag j1 j2 a1 a2 a3 a4 => ?_))
                refine ev_istore dMo_haul_57 (by decide) ?_
                refine ev_aload_n dMo_haul_59 rfl rfl ?_
                refine ev_get dMo_haul_60 fMo_13 m1.2.1.1 rfl ?_
                refine ev_iload dMo_haul_63 rfl ?_
                refine ev_iconst (v := nI 1) dMo_haul_65 (by decide) ?_
                refine ev_iast dMo_haul_66 m1.2.1.g2 rfl rfl (by omega) (by decide) ?_
                refine mo_ist (j := 2) (t := 0) (N := 70) m1 (by decide) (fun h66 m66 => ?_)
                refine ev_aload_n dMo_haul_67 rfl rfl ?_
                refine ev_get dMo_haul_68 fMo_16 m66.2.1.1 rfl ?_
                refine ev_bipush (v := nI 81) dMo_haul_71 (by decide) ?_
                refine ev_iload dMo_haul_73 rfl ?_
                refine ev_imul dMo_haul_75 ?_
                refine ev_iload dMo_haul_76 rfl ?_
                refine ev_iast dMo_haul_78 m66.2.1.g3 rfl (mul81) (by omega) (by decide) ?_
                refine mo_ist (j := 3) (t := 0) (N := 5670) m66 (by decide) (fun h78 m78 => ?_)
                refine ev_aload_n dMo_haul_79 rfl rfl ?_
                refine ev_get dMo_haul_80 fMo_19 m78.2.1.1 rfl ?_
                refine ev_bipush (v := nI 81) dMo_haul_83 (by decide) ?_
                refine ev_iload dMo_haul_85 rfl ?_
                refine ev_imul dMo_haul_87 ?_
                refine ev_lload_n dMo_haul_88 rfl rfl ?_
                refine ev_last dMo_haul_89 m78.2.1.g4 rfl (mul81) (by omega) (by decide) ?_
                refine mo_lst (j := 4) (N := 5670) m78 (by decide) (fun h89 m89 => ?_)
                refine ev_iload dMo_haul_90 rfl ?_
                refine ev_iret dMo_haul_92 rfl rfl ?_
                exact hk _ _ _ _ m89 (MoT_add hT hlt v0 (ag.tr haul_ag) (haul_t (mo_new hT hlt j1 j2 a1 a2 a3 a4)) (by show 1 ≤ 80; omega) (t_ok_mk (by omega) (by omega) (by omega) (by omega) hg2 (by omega) (by omega) (by intro r hr; simp at hr; subst hr; show ts.length < 100; omega) (by intro r hr; simp at hr; subst hr; exact ⟨hg1, by show g' < 10000000000; omega⟩) trivial (by omega))) (r1.tr haul_rest)
              · skip
                refine ev_iconst (v := -1) dMo_haul_46 (by decide) ?_
                refine ev_iret dMo_haul_47 rfl rfl ?_
                exact refuse (fun z => absurd (show nI ts.length = nI 70 by rw [← e0]; exact c43) (fun q => absurd ((nI_eq (by omega) (by decide)).mp q) (by have := z.2.2.2; omega)))
end MO2
