/-! the reference: certificate, claim -/
def rcov (as : List sA) (c : Int32) (g : Int64) (D : Int32) : Prop := g ≤ bal as c D ∧ ∀ a ∈ as, D ≤ a.2.2 → g ≤ bal as c a.2.2
theorem bal_same {c x y : Int32} : ∀ (as : List sA) (s : Int64), (∀ a ∈ as, a.1 = c → (a.2.2 ≤ x ↔ a.2.2 ≤ y)) → as.foldl (bal1 c x) s = as.foldl (bal1 c y) s := by
  intro as
  induction as with
  | nil => intro s _; rw [List.foldl_nil, List.foldl_nil]
  | cons a as ih =>
    intro s h
    have e : bal1 c x s a = bal1 c y s a := by
      unfold bal1
      by_cases h1 : a.1 = c
      · have := h a List.mem_cons_self h1
        by_cases h2 : a.2.2 ≤ x
        · rw [if_pos ⟨h1, h2⟩, if_pos ⟨h1, this.mp h2⟩]
        · rw [if_neg (fun z => h2 z.2), if_neg (fun z => h2 (this.mpr z.2))]
      · rw [if_neg (fun z => h1 z.1), if_neg (fun z => h1 z.1)]
    rw [List.foldl_cons, List.foldl_cons, e]
    exact ih _ (fun b hb => h b (List.mem_cons_of_mem _ hb))
theorem own_max {c D x : Int32} : ∀ as : List sA, (∀ a ∈ as, a.1 = c → a.2.2 ≤ x → a.2.2 ≤ D) ∨ ∃ b ∈ as, b.1 = c ∧ D < b.2.2 ∧ b.2.2 ≤ x ∧ ∀ a ∈ as, a.1 = c → a.2.2 ≤ x → a.2.2 ≤ b.2.2 := by
  intro as
  induction as with
  | nil => exact Or.inl (fun a ha => by cases ha)
  | cons a as ih =>
    rcases ih with h | ⟨b, b1, b2, b3, b4, b5⟩
    · by_cases hc : a.1 = c ∧ a.2.2 ≤ x ∧ D < a.2.2
      · refine Or.inr ⟨a, List.mem_cons_self, hc.1, hc.2.2, hc.2.1, fun e he e1 e2 => ?_⟩
        rcases List.mem_cons.mp he with z | z
        · rw [z]; rw [Int32.le_iff_toInt_le]; omega
        · have h1 := h e z e1 e2
          have h2 := hc.2.2
          rw [Int32.le_iff_toInt_le] at h1 ⊢
          rw [Int32.lt_iff_toInt_lt] at h2
          omega
      · refine Or.inl (fun e he e1 e2 => ?_)
        rcases List.mem_cons.mp he with z | z
        · subst z
          by_cases q : D < e.2.2
          · exact absurd ⟨e1, e2, q⟩ hc
          · exact iI_nlt q
        · exact h e z e1 e2
    · by_cases hc : a.1 = c ∧ a.2.2 ≤ x ∧ b.2.2 < a.2.2
      · refine Or.inr ⟨a, List.mem_cons_self, hc.1, ?_, hc.2.1, fun e he e1 e2 => ?_⟩
        · have h2 := hc.2.2
          rw [Int32.lt_iff_toInt_lt] at h2 b3 ⊢
          omega
        · rcases List.mem_cons.mp he with z | z
          · rw [z]; rw [Int32.le_iff_toInt_le]; omega
          · have h1 := b5 e z e1 e2
            have h2 := hc.2.2
            rw [Int32.le_iff_toInt_le] at h1 ⊢
            rw [Int32.lt_iff_toInt_lt] at h2
            omega
      · refine Or.inr ⟨b, List.mem_cons_of_mem _ b1, b2, b3, b4, fun e he e1 e2 => ?_⟩
        rcases List.mem_cons.mp he with z | z
        · subst z
          by_cases q : b.2.2 < e.2.2
          · exact absurd ⟨e1, e2, q⟩ hc
          · exact iI_nlt q
        · exact b5 e z e1 e2
theorem iI_tr {a b c : Int32} (h1 : a ≤ b) (h2 : b ≤ c) : a ≤ c := by
  rw [Int32.le_iff_toInt_le] at *; omega
theorem iI_lt_le {a b : Int32} (h1 : a < b) : a ≤ b := by
  rw [Int32.lt_iff_toInt_lt] at h1; rw [Int32.le_iff_toInt_le]; omega
theorem rcov_iff {as : List sA} {c : Int32} {g : Int64} {D : Int32} : rcov as c g D ↔ cov as c g D := by
  constructor
  · intro h
    exact ⟨h.1, fun a ha _ h2 => h.2 a ha (iI_lt_le h2)⟩
  · intro h
    refine ⟨h.1, fun a ha hD => ?_⟩
    rcases own_max (c := c) (D := D) (x := a.2.2) as with q | ⟨b, b1, b2, b3, b4, b5⟩
    · have : bal as c a.2.2 = bal as c D := bal_same as 0 (fun e he e1 => ⟨fun z => q e he e1 z, fun z => iI_tr z hD⟩)
      rw [this]; exact h.1
    · have : bal as c a.2.2 = bal as c b.2.2 := bal_same as 0 (fun e he e1 => ⟨fun z => b5 e he e1 z, fun z => iI_tr z b4⟩)
      rw [this]; exact h.2 b b1 b2 b3
section MO5
variable {G : xG} {l : Launch} {d bc bs : Nat} {h h0 : xH} {n : Nat} {P : Option Value → xH → Nat → Prop} {ad tg : Nat → Nat} {T : Nat} {iv : Nat → Int32} {ia : Nat → Nat → Int32} {la : Nat → Nat → Int64} {cs : List Int32} {as : List sA}
set_option maxRecDepth 20000 in
set_option maxHeartbeats 1000000 in
theorem Mo_certificate_ok {u : Int32} (hM : MoK h0 h ad tg T iv ia la) (hT : MoG iv ia la cs as) (hk : ∀ h' iv' ia' la', MoK h0 h' ad tg T iv' ia' la' → MoG iv' ia' la' (cert_s cs u).2 as → mo_gr iv iv' ia ia' la la' → P (some (.int (cert_s cs u).1)) h' n) : ev_Run G l (d + 1) bc bs mMo_certificate 0 [some (.ref (ad 1000)), some (.int u)] [] h n P := by
  obtain ⟨g1, g2, g3, g4, g5, g6⟩ := id hT
  have refuse : ¬ ((¬ u < 0 ∧ u ≤ nI 99999) ∧ cs.length < 10) → P (some (.int (-1))) h n := by
    intro hc
    have := hk h iv ia la hM
    rw [cert_s, if_neg hc] at this
    exact this hT mo_gr.rf
  refine ev_iload_n dMo_certificate_0 rfl rfl ?_
  refine ev_if_lt (tgt := 19) dMo_certificate_1 (by decide) (fun c1 => ?_) (fun c1 => ?_)
  · refine ev_iconst (v := -1) dMo_certificate_19 (by decide) ?_
    refine ev_iret dMo_certificate_20 rfl rfl ?_
    exact refuse (fun z => z.1.1 c1)
  · refine ev_iload_n dMo_certificate_4 rfl rfl ?_
    refine ev_ldc (v := nI 99999) dMo_certificate_5 qMo_100 ?_
    refine ev_icmp_gt (tgt := 19) dMo_certificate_7 (by decide) (fun c7 => ?_) (fun c7 => ?_)
    · refine ev_iconst (v := -1) dMo_certificate_19 (by decide) ?_
      refine ev_iret dMo_certificate_20 rfl rfl ?_
      exact refuse (fun z => iI_le_nlt z.1.2 c7)
    · refine ev_aload_n dMo_certificate_10 rfl rfl ?_
      refine ev_get dMo_certificate_11 fMo_178 hM.2.1.1 rfl ?_
      refine ev_bipush (v := nI 10) dMo_certificate_14 (by decide) ?_
      refine ev_icmp_ne (tgt := 21) dMo_certificate_16 (by decide) (fun c16 => ?_) (fun c16 => ?_)
      · have hlt : cs.length < 10 := (by rcases Nat.lt_or_ge cs.length 10 with z | z; exact z; exact absurd (by rw [g1]; congr 1; omega) c16)
        rw [cert_s, if_pos ⟨⟨c1, iI_nlt c7⟩, hlt⟩] at hk
        refine ev_aload_n dMo_certificate_21 rfl rfl ?_
        refine ev_get dMo_certificate_22 fMo_75 hM.2.1.1 rfl ?_
        refine ev_aload_n dMo_certificate_25 rfl rfl ?_
        refine ev_get dMo_certificate_26 fMo_178 hM.2.1.1 rfl ?_
        refine ev_iload_n dMo_certificate_29 rfl rfl ?_
        refine ev_iast dMo_certificate_30 hM.2.1.g22 rfl (g1) (hlt) (by decide) ?_
        refine mo_ist (j := 22) (t := 0) (N := 10) hM (by decide) (fun h30 m30 => ?_)
        refine ev_aload_n dMo_certificate_31 rfl rfl ?_
        refine ev_dup dMo_certificate_32 rfl ?_
        refine ev_get dMo_certificate_33 fMo_178 m30.2.1.1 rfl ?_
        refine ev_iconst (v := nI 1) dMo_certificate_36 (by decide) ?_
        refine ev_iadd dMo_certificate_37 ?_
        refine ev_top (y := nI (cs.length + 1)) (by rw [g1]; exact nI_add _ _) ?_
        refine ev_put dMo_certificate_38 fMo_178 tMo_28 m30.2.1.1 rfl rfl (Nat.le_of_ble_eq_true rfl) ?_
        refine mo_put m30 Mo_c7 (fun h38 m38 => ?_)
        refine ev_aload_n dMo_certificate_41 rfl rfl ?_
        refine ev_get dMo_certificate_42 fMo_178 m38.2.1.1 rfl ?_
        refine ev_iconst (v := nI 1) dMo_certificate_45 (by decide) ?_
        refine ev_isub dMo_certificate_46 ?_
        refine ev_top (y := nI cs.length) (by rw [upv_s]; exact nI_pred _) ?_
        refine ev_iret dMo_certificate_47 rfl rfl ?_
        refine hk _ _ _ _ m38 ⟨?_, by rw [List.length_append]; exact hlt, fun k v hv => ?_, g4, g5, g6⟩ ⟨fun j hj => ⟨upv_n (by omega), rfl⟩, fun j hj => upv_n (by omega)⟩
        · rw [List.length_append]; exact upv_s
        · show upd (ia 22) cs.length u k = v; rcases Nat.lt_or_ge k cs.length with q | q; (rw [List.getElem?_append_left q] at hv; rw [pk_un (by omega)]; exact g3 k v hv); (have hk1 := (List.getElem?_eq_some_iff.mp hv).1; have : k = cs.length := (by simp at hk1; omega); subst this; simp at hv; subst hv; exact pk_us)
      · skip
        refine ev_iconst (v := -1) dMo_certificate_19 (by decide) ?_
        refine ev_iret dMo_certificate_20 rfl rfl ?_
        exact refuse (fun z => absurd (show nI cs.length = nI 10 by rw [← g1]; exact c16) (fun q => absurd ((nI_eq (by omega) (by decide)).mp q) (by have := z.2; omega)))
end MO5
