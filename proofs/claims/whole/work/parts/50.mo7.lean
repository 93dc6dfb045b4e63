/-! the reference: the tape, the reader -/
def MoY (iv : Nat → Int32) (ia : Nat → Nat → Int32) (ys : List Int32) : Prop := iv 2 = nI ys.length ∧ ys.length ≤ 400 ∧ (∀ k v, ys[k]? = some v → ia 13 k = v)
theorem MoY.at {iv : Nat → Int32} {ia : Nat → Nat → Int32} {ys : List Int32} (h : MoY iv ia ys) {b : Nat} (hb : b < ys.length) : ia 13 b = by_at ys (nI b) := by
  have := h.2.1
  rw [by_at_in (by omega) (List.getElem?_eq_getElem hb)]
  exact h.2.2 b _ (List.getElem?_eq_getElem hb)
theorem MoY.keep {iv iv' : Nat → Int32} {ia : Nat → Nat → Int32} {ys : List Int32} (h : MoY iv ia ys) (h2 : iv' 2 = iv 2) : MoY iv' ia ys := ⟨h2.trans h.1, h.2⟩
theorem by_at_end {ys : List Int32} {b : Nat} (h : ys.length ≤ b) (hb : b < 2 ^ 31) : by_at ys (nI b) = -1 := by
  rw [by_at_n hb, List.getElem?_eq_none h]
section MO7
variable {G : xG} {l : Launch} {d bc bs : Nat} {h h0 : xH} {n : Nat} {P : Option Value → xH → Nat → Prop} {ad tg : Nat → Nat} {T : Nat} {iv : Nat → Int32} {ia : Nat → Nat → Int32} {la : Nat → Nat → Int64} {ys : List Int32}
set_option maxRecDepth 20000 in
set_option maxHeartbeats 1000000 in
theorem Mo_unit_ok {x : Int32} (hM : MoK h0 h ad tg T iv ia la) (hY : MoY iv ia ys) (hk : ∀ h' iv' ia', MoK h0 h' ad tg T iv' ia' la → MoY iv' ia' (unit_s ys x).2 → (∀ j, j ≠ 13 → ia' j = ia j) → (∀ j, j ≠ 2 → iv' j = iv j) → P (some (.int (unit_s ys x).1)) h' n) : ev_Run G l d bc bs mMo_unit 0 [some (.ref (ad 1000)), some (.int x)] [] h n P := by
  obtain ⟨y1, y2, y3⟩ := id hY
  refine ev_aload_n dMo_unit_0 rfl rfl ?_
  refine ev_get dMo_unit_1 fMo_148 hM.2.1.1 rfl ?_
  refine ev_sipush (v := nI 400) dMo_unit_4 (by decide) ?_
  refine ev_icmp_ne (tgt := 12) dMo_unit_7 (by decide) (fun c7 => ?_) (fun c7 => ?_)
  · have hlt : ys.length < 400 := (by rcases Nat.lt_or_ge ys.length 400 with z | z; exact z; exact absurd (by rw [y1]; congr 1; omega) c7)
    rw [unit_s, if_pos hlt] at hk
    refine ev_aload_n dMo_unit_12 rfl rfl ?_
    refine ev_get dMo_unit_13 fMo_48 hM.2.1.1 rfl ?_
    refine ev_aload_n dMo_unit_16 rfl rfl ?_
    refine ev_get dMo_unit_17 fMo_148 hM.2.1.1 rfl ?_
    refine ev_iload_n dMo_unit_20 rfl rfl ?_
    refine ev_sipush (v := nI 255) dMo_unit_21 (by decide) ?_
    refine ev_iand dMo_unit_24 ?_
    refine ev_iast dMo_unit_25 hM.2.1.g13 rfl (y1) (hlt) (by decide) ?_
    refine mo_ist (j := 13) (t := 0) (N := 400) hM (by decide) (fun h25 m25 => ?_)
    refine ev_aload_n dMo_unit_26 rfl rfl ?_
    refine ev_dup dMo_unit_27 rfl ?_
    refine ev_get dMo_unit_28 fMo_148 m25.2.1.1 rfl ?_
    refine ev_iconst (v := nI 1) dMo_unit_31 (by decide) ?_
    refine ev_iadd dMo_unit_32 ?_
    refine ev_top (y := nI (ys.length + 1)) (by rw [y1]; exact nI_add _ _) ?_
    refine ev_put dMo_unit_33 fMo_148 tMo_14 m25.2.1.1 rfl rfl (Nat.le_of_ble_eq_true rfl) ?_
    refine mo_put m25 Mo_c2 (fun h33 m33 => ?_)
    refine ev_iconst (v := nI 1) dMo_unit_36 (by decide) ?_
    refine ev_iret dMo_unit_37 rfl rfl ?_
    refine hk _ _ _ m33 ⟨?_, by rw [List.length_append]; exact hlt, fun k v hv => ?_⟩ (fun j hj => upv_n hj) (fun j hj => upv_n hj)
    · rw [List.length_append]; exact upv_s
    · show upd (ia 13) ys.length _ k = v; rcases Nat.lt_or_ge k ys.length with q | q; (rw [List.getElem?_append_left q] at hv; rw [pk_un (by omega)]; exact y3 k v hv); (have hk1 := (List.getElem?_eq_some_iff.mp hv).1; have : k = ys.length := (by simp at hk1; omega); subst this; simp at hv; subst hv; exact pk_us)
  · have hge : ¬ ys.length < 400 := fun z => absurd ((nI_eq (by omega) (by decide)).mp (y1.symm.trans c7)) (by omega)
    rw [unit_s, if_neg hge] at hk
    refine ev_iconst (v := nI 0) dMo_unit_10 (by decide) ?_
    refine ev_iret dMo_unit_11 rfl rfl ?_
    exact hk _ _ _ hM hY (fun _ _ => rfl) (fun _ _ => rfl)
set_option maxRecDepth 20000 in
theorem Mo_isDigit_ok {a : Nat} {x : Int32} (hx : x = nI a) (ha : a ≤ ys.length) (hM : MoK h0 h ad tg T iv ia la) (hY : MoY iv ia ys) (ht : dig (by_at ys (nI a)) → P (some (.int (nI 1))) h n) (hf : ¬ dig (by_at ys (nI a)) → P (some (.int (nI 0))) h n) : ev_Run G l d bc bs mMo_isDigit 0 [some (.ref (ad 1000)), some (.int x)] [] h n P := by
  have y2 := hY.2.1
  subst hx
  refine ev_iload_n dMo_isDigit_0 rfl rfl ?_
  refine ev_aload_n dMo_isDigit_1 rfl rfl ?_
  refine ev_get dMo_isDigit_2 fMo_148 hM.2.1.1 rfl ?_
  refine ev_icmp_ge (tgt := 34) dMo_isDigit_5 (by decide) (fun c5 => ?_) (fun c5 => ?_)
  · rw [hY.1, nI_leI (by omega) (by omega)] at c5
    refine ev_iconst (v := nI 0) dMo_isDigit_34 (by decide) ?_
    refine ev_iret dMo_isDigit_35 rfl rfl ?_
    exact hf (fun z => absurd (by_at_end c5 (by omega)) (dig_ne z))
  · rw [hY.1, nI_leI (by omega) (by omega)] at c5
    have hv := hY.at (b := a) (by omega)
    refine ev_aload_n dMo_isDigit_8 rfl rfl ?_
    refine ev_get dMo_isDigit_9 fMo_48 hM.2.1.1 rfl ?_
    refine ev_iload_n dMo_isDigit_12 rfl rfl ?_
    refine ev_iald dMo_isDigit_13 hM.2.1.g13 rfl rfl (by omega) (by decide) ?_
    refine ev_top (hv) ?_
    refine ev_bipush (v := nI 48) dMo_isDigit_14 (by decide) ?_
    refine ev_icmp_lt (tgt := 34) dMo_isDigit_16 (by decide) (fun c16 => ?_) (fun c16 => ?_)
    · refine ev_iconst (v := nI 0) dMo_isDigit_34 (by decide) ?_
      refine ev_iret dMo_isDigit_35 rfl rfl ?_
      exact hf (fun z => iI_le_nlt z.1 c16)
    · refine ev_aload_n dMo_isDigit_19 rfl rfl ?_
      refine ev_get dMo_isDigit_20 fMo_48 hM.2.1.1 rfl ?_
      refine ev_iload_n dMo_isDigit_23 rfl rfl ?_
      refine ev_iald dMo_isDigit_24 hM.2.1.g13 rfl rfl (by omega) (by decide) ?_
      refine ev_top (hv) ?_
      refine ev_bipush (v := nI 57) dMo_isDigit_25 (by decide) ?_
      refine ev_icmp_gt (tgt := 34) dMo_isDigit_27 (by decide) (fun c27 => ?_) (fun c27 => ?_)
      · refine ev_iconst (v := nI 0) dMo_isDigit_34 (by decide) ?_
        refine ev_iret dMo_isDigit_35 rfl rfl ?_
        exact hf (fun z => iI_le_nlt z.2 c27)
      · refine ev_iconst (v := nI 1) dMo_isDigit_30 (by decide) ?_
        refine ev_goto (tgt := 35) dMo_isDigit_31 (by decide) ?_
        refine ev_iret dMo_isDigit_35 rfl rfl ?_
        exact ht ⟨iI_nlt c16, iI_nlt c27⟩
set_option maxRecDepth 20000 in
set_option maxHeartbeats 1000000 in
theorem Mo_skip_ok {a : Nat} (ha : a ≤ ys.length) (hM : MoK h0 h ad tg T iv ia la) (hY : MoY iv ia ys) (h5 : iv 5 = nI a) (ht : ∀ h' iv', MoK h0 h' ad tg T iv' ia la → iv' 5 = nI (skp ys a) → (∀ j, j ≠ 5 → iv' j = iv j) → skp ys a < ys.length → P (some (.int (nI 1))) h' n) (hf : ∀ h' iv', MoK h0 h' ad tg T iv' ia la → iv' 5 = nI (skp ys a) → (∀ j, j ≠ 5 → iv' j = iv j) → skp ys a = ys.length → P (some (.int (nI 0))) h' n) : ev_Run G l d bc bs mMo_skip 0 [some (.ref (ad 1000))] [] h n P := by
  have y2 := hY.2.1
  have fin : ∀ b h' iv', skp ys b = skp ys a → b ≤ ys.length → skp ys b = b → MoK h0 h' ad tg T iv' ia la → iv' 5 = nI b → (∀ j, j ≠ 5 → iv' j = iv j) → ev_Run G l d bc bs mMo_skip 80 [some (.ref (ad 1000))] [] h' n P := by
    intro b h' iv' hs hb hbb hM' h5' hj
    have h2' : iv' 2 = nI ys.length := (hj 2 (by omega)).trans hY.1
    rw [← hs, hbb] at ht hf
    refine ev_aload_n dMo_skip_80 rfl rfl ?_
    refine ev_get dMo_skip_81 fMo_151 hM'.2.1.1 rfl ?_
    refine ev_aload_n dMo_skip_84 rfl rfl ?_
    refine ev_get dMo_skip_85 fMo_148 hM'.2.1.1 rfl ?_
    refine ev_icmp_ge (tgt := 95) dMo_skip_88 (by decide) (fun c88 => ?_) (fun c88 => ?_)
    · rw [h2', h5', nI_leI (by omega) (by omega)] at c88
      refine ev_iconst (v := nI 0) dMo_skip_95 (by decide) ?_
      refine ev_iret dMo_skip_96 rfl rfl ?_
      exact hf _ _ hM' h5' hj (by omega)
    · rw [h2', h5', nI_leI (by omega) (by omega)] at c88
      refine ev_iconst (v := nI 1) dMo_skip_91 (by decide) ?_
      refine ev_goto (tgt := 96) dMo_skip_92 (by decide) ?_
      refine ev_iret dMo_skip_96 rfl rfl ?_
      exact ht _ _ hM' h5' hj (by omega)
  have loop : ∀ e b h' iv', b + e = ys.length → skp ys b = skp ys a → MoK h0 h' ad tg T iv' ia la → iv' 5 = nI b → (∀ j, j ≠ 5 → iv' j = iv j) → ev_Run G l d bc bs mMo_skip 0 [some (.ref (ad 1000))] [] h' n P := by
    intro e
    induction e with
    | zero =>
      intro b h' iv' hbe hs hM' h5' hj
      have h2' : iv' 2 = nI ys.length := (hj 2 (by omega)).trans hY.1
      have hbb : skp ys b = b := skp_f (by omega) (fun z => absurd (by_at_end (by omega) (by omega)) (blk_ne z))
      refine ev_aload_n dMo_skip_0 rfl rfl ?_
      refine ev_get dMo_skip_1 fMo_151 hM'.2.1.1 rfl ?_
      refine ev_aload_n dMo_skip_4 rfl rfl ?_
      refine ev_get dMo_skip_5 fMo_148 hM'.2.1.1 rfl ?_
      refine ev_icmp_ge (tgt := 80) dMo_skip_8 (by decide) (fun c8 => ?_) (fun c8 => absurd ((by rw [h2', h5']; exact nI_le (by omega) (by omega))) c8)
      exact fin b h' iv' hs (by omega) hbb hM' h5' hj
    | succ e ih =>
      intro b h' iv' hbe hs hM' h5' hj
      have h2' : iv' 2 = nI ys.length := (hj 2 (by omega)).trans hY.1
      have hv := hY.at (b := b) (by omega)
      have go : blk (by_at ys (nI b)) → ∀ h2, MoK h0 h2 ad tg T (upv iv' 5 (nI (b + 1))) ia la → ev_Run G l d bc bs mMo_skip 0 [some (.ref (ad 1000))] [] h2 n P := fun hb h2 m2 => ih (b + 1) h2 _ (by omega) ((skp_t (by omega) hb).1.symm.trans hs) m2 upv_s (fun j hj' => (upv_n hj').trans (hj j hj'))
      refine ev_aload_n dMo_skip_0 rfl rfl ?_
      refine ev_get dMo_skip_1 fMo_151 hM'.2.1.1 rfl ?_
      refine ev_aload_n dMo_skip_4 rfl rfl ?_
      refine ev_get dMo_skip_5 fMo_148 hM'.2.1.1 rfl ?_
      refine ev_icmp_ge (tgt := 80) dMo_skip_8 (by decide) (fun c8 => False.elim (absurd c8 (by rw [h2', h5']; exact nI_ge (by omega) (by omega)))) (fun c8 => ?_)
      refine ev_aload_n dMo_skip_11 rfl rfl ?_
      refine ev_get dMo_skip_12 fMo_48 hM'.2.1.1 rfl ?_
      refine ev_aload_n dMo_skip_15 rfl rfl ?_
      refine ev_get dMo_skip_16 fMo_151 hM'.2.1.1 rfl ?_
      refine ev_iald dMo_skip_19 hM'.2.1.g13 rfl (h5') (by omega) (by decide) ?_
      refine ev_top (hv) ?_
      refine ev_bipush (v := nI 9) dMo_skip_20 (by decide) ?_
      refine ev_icmp_eq (tgt := 67) dMo_skip_22 (by decide) (fun c22 => ?_) (fun c22 => ?_)
      · refine ev_aload_n dMo_skip_67 rfl rfl ?_
        refine ev_dup dMo_skip_68 rfl ?_
        refine ev_get dMo_skip_69 fMo_151 hM'.2.1.1 rfl ?_
        refine ev_iconst (v := nI 1) dMo_skip_72 (by decide) ?_
        refine ev_iadd dMo_skip_73 ?_
        refine ev_top (y := nI (b + 1)) (by rw [h5']; exact nI_add _ _) ?_
        refine ev_put dMo_skip_74 fMo_151 tMo_26 hM'.2.1.1 rfl rfl (Nat.le_of_ble_eq_true rfl) ?_
        refine mo_put hM' Mo_c5 (fun h74 m74 => ?_)
        refine ev_goto (tgt := 0) dMo_skip_77 (by decide) ?_
        exact go (Or.inl c22) _ m74
      · refine ev_aload_n dMo_skip_25 rfl rfl ?_
        refine ev_get dMo_skip_26 fMo_48 hM'.2.1.1 rfl ?_
        refine ev_aload_n dMo_skip_29 rfl rfl ?_
        refine ev_get dMo_skip_30 fMo_151 hM'.2.1.1 rfl ?_
        refine ev_iald dMo_skip_33 hM'.2.1.g13 rfl (h5') (by omega) (by decide) ?_
        refine ev_top (hv) ?_
        refine ev_bipush (v := nI 10) dMo_skip_34 (by decide) ?_
        refine ev_icmp_eq (tgt := 67) dMo_skip_36 (by decide) (fun c36 => ?_) (fun c36 => ?_)
        · refine ev_aload_n dMo_skip_67 rfl rfl ?_
          refine ev_dup dMo_skip_68 rfl ?_
          refine ev_get dMo_skip_69 fMo_151 hM'.2.1.1 rfl ?_
          refine ev_iconst (v := nI 1) dMo_skip_72 (by decide) ?_
          refine ev_iadd dMo_skip_73 ?_
          refine ev_top (y := nI (b + 1)) (by rw [h5']; exact nI_add _ _) ?_
          refine ev_put dMo_skip_74 fMo_151 tMo_26 hM'.2.1.1 rfl rfl (Nat.le_of_ble_eq_true rfl) ?_
          refine mo_put hM' Mo_c5 (fun h74 m74 => ?_)
          refine ev_goto (tgt := 0) dMo_skip_77 (by decide) ?_
          exact go (Or.inr (Or.inl c36)) _ m74
        · refine ev_aload_n dMo_skip_39 rfl rfl ?_
          refine ev_get dMo_skip_40 fMo_48 hM'.2.1.1 rfl ?_
          refine ev_aload_n dMo_skip_43 rfl rfl ?_
          refine ev_get dMo_skip_44 fMo_151 hM'.2.1.1 rfl ?_
          refine ev_iald dMo_skip_47 hM'.2.1.g13 rfl (h5') (by omega) (by decide) ?_
          refine ev_top (hv) ?_
          refine ev_bipush (v := nI 13) dMo_skip_48 (by decide) ?_
          refine ev_icmp_eq (tgt := 67) dMo_skip_50 (by decide) (fun c50 => ?_) (fun c50 => ?_)
          · refine ev_aload_n dMo_skip_67 rfl rfl ?_
            refine ev_dup dMo_skip_68 rfl ?_
            refine ev_get dMo_skip_69 fMo_151 hM'.2.1.1 rfl ?_
            refine ev_iconst (v := nI 1) dMo_skip_72 (by decide) ?_
            refine ev_iadd dMo_skip_73 ?_
            refine ev_top (y := nI (b + 1)) (by rw [h5']; exact nI_add _ _) ?_
            refine ev_put dMo_skip_74 fMo_151 tMo_26 hM'.2.1.1 rfl rfl (Nat.le_of_ble_eq_true rfl) ?_
            refine mo_put hM' Mo_c5 (fun h74 m74 => ?_)
            refine ev_goto (tgt := 0) dMo_skip_77 (by decide) ?_
            exact go (Or.inr (Or.inr (Or.inl c50))) _ m74
          · refine ev_aload_n dMo_skip_53 rfl rfl ?_
            refine ev_get dMo_skip_54 fMo_48 hM'.2.1.1 rfl ?_
            refine ev_aload_n dMo_skip_57 rfl rfl ?_
            refine ev_get dMo_skip_58 fMo_151 hM'.2.1.1 rfl ?_
            refine ev_iald dMo_skip_61 hM'.2.1.g13 rfl (h5') (by omega) (by decide) ?_
            refine ev_top (hv) ?_
            refine ev_bipush (v := nI 32) dMo_skip_62 (by decide) ?_
            refine ev_icmp_ne (tgt := 80) dMo_skip_64 (by decide) (fun c64 => ?_) (fun c64 => ?_)
            · exact fin b h' iv' hs (by omega) (skp_f (by omega) (fun z => z.elim c22 (fun z => z.elim c36 (fun z => z.elim c50 c64)))) hM' h5' hj
            · refine ev_aload_n dMo_skip_67 rfl rfl ?_
              refine ev_dup dMo_skip_68 rfl ?_
              refine ev_get dMo_skip_69 fMo_151 hM'.2.1.1 rfl ?_
              refine ev_iconst (v := nI 1) dMo_skip_72 (by decide) ?_
              refine ev_iadd dMo_skip_73 ?_
              refine ev_top (y := nI (b + 1)) (by rw [h5']; exact nI_add _ _) ?_
              refine ev_put dMo_skip_74 fMo_151 tMo_26 hM'.2.1.1 rfl rfl (Nat.le_of_ble_eq_true rfl) ?_
              refine mo_put hM' Mo_c5 (fun h74 m74 => ?_)
              refine ev_goto (tgt := 0) dMo_skip_77 (by decide) ?_
              exact go (Or.inr (Or.inr (Or.inr c64))) _ m74
  exact loop (ys.length - a) a h iv (by omega) rfl hM h5 (fun _ _ => rfl)
end MO7
