/-! the ledger: certificates by their last days; acts: owner, grams, day -/
abbrev sA : Type := Int32 × Int64 × Int32
def bal1 (c D : Int32) (s : Int64) (a : sA) : Int64 := if a.1 = c ∧ a.2.2 ≤ D then s + a.2.1 else s
def bal (as : List sA) (c D : Int32) : Int64 := as.foldl (bal1 c D) 0
theorem bal_take {as : List sA} {i : Nat} {a : sA} {c D : Int32} (h : as[i]? = some a) : bal (as.take (i + 1)) c D = bal1 c D (bal (as.take i) c D) a := by
  simp [bal, List.take_add_one, h, List.foldl_append]
abbrev cov (as : List sA) (c : Int32) (g : Int64) (D : Int32) : Prop := g ≤ bal as c D ∧ ∀ a ∈ as, a.1 = c → D < a.2.2 → g ≤ bal as c a.2.2
def Le (h : xH) (ad : Nat → Nat) (cs : List Int32) (as : List sA) : Prop := ∃ (f1 f2 f3 : Nat → Int32) (f4 : Nat → Int64), h (ad 19) = some (.inr (2, [.ref (ad 20), .int (nI cs.length), .ref (ad 21), .ref (ad 22), .ref (ad 23), .int (nI as.length)])) ∧ h (ad 20) = some (.inl (0, 10, .inl f1)) ∧ h (ad 21) = some (.inl (0, 100, .inl f2)) ∧ h (ad 22) = some (.inl (0, 100, .inl f3)) ∧ h (ad 23) = some (.inl (1, 100, .inr (.inl f4))) ∧ cs.length ≤ 10 ∧ as.length ≤ 100 ∧ (∀ k u, cs[k]? = some u → f1 k = u) ∧ (∀ k a, as[k]? = some a → f2 k = a.1 ∧ f4 k = a.2.1 ∧ f3 k = a.2.2)
theorem Le.keep {h h' : xH} {ad : Nat → Nat} {cs : List Int32} {as : List sA} (hL : Le h ad cs as) (hq : ∀ k, 19 ≤ k → k < 24 → h' (ad k) = h (ad k)) : Le h' ad cs as := by
  obtain ⟨f1, f2, f3, f4, h0, h1, h2, h3, h4, r⟩ := hL
  exact ⟨f1, f2, f3, f4, (hq 19 (by omega) (by omega)).trans h0, (hq 20 (by omega) (by omega)).trans h1, (hq 21 (by omega) (by omega)).trans h2, (hq 22 (by omega) (by omega)).trans h3, (hq 23 (by omega) (by omega)).trans h4, r⟩
section LE
variable {G : xG} {l : Launch} {d bc bs : Nat} {h : xH} {n : Nat} {P : Option Value → xH → Nat → Prop} {ad tg : Nat → Nat} {T : Nat} {cs : List Int32} {as : List sA}
theorem Le.obj (hL : Le h ad cs as) : h (ad 19) = some (.inr (2, [.ref (ad 20), .int (nI cs.length), .ref (ad 21), .ref (ad 22), .ref (ad 23), .int (nI as.length)])) := hL.choose_spec.choose_spec.choose_spec.choose_spec.1
set_option maxRecDepth 20000 in
theorem Le_size_ok (hL : Le h ad cs as) (hk : P (some (.int (nI cs.length))) h n) : ev_Run G l d bc bs mLe_size 0 [some (.ref (ad 19))] [] h n P := by
  have h0 := hL.obj
  refine ev_aload_n dLe_size_0 rfl rfl ?_
  refine ev_get dLe_size_1 fLe_25 h0 rfl ?_
  refine ev_iret dLe_size_4 rfl rfl ?_
  exact hk
set_option maxRecDepth 20000 in
theorem Le_has_ok {x : Int32} (hL : Le h ad cs as) (ht : ∀ i u, x = nI i → cs[i]? = some u → P (some (.int (nI 1))) h n) (hf : (x < 0 ∨ nI cs.length ≤ x) → P (some (.int (nI 0))) h n) : ev_Run G l d bc bs mLe_has 0 [some (.ref (ad 19)), some (.int x)] [] h n P := by
  obtain ⟨f1, f2, f3, f4, h0, h1, h2, h3, h4, l1, l2, e1, e2⟩ := hL
  refine ev_iload_n dLe_has_0 rfl rfl ?_
  refine ev_if_lt (tgt := 16) dLe_has_1 (by decide) (fun c1 => ?_) (fun c1 => ?_)
  · refine ev_iconst (v := nI 0) dLe_has_16 (by decide) ?_
    refine ev_iret dLe_has_17 rfl rfl ?_
    exact hf (Or.inl c1)
  · refine ev_iload_n dLe_has_4 rfl rfl ?_
    refine ev_aload_n dLe_has_5 rfl rfl ?_
    refine ev_get dLe_has_6 fLe_25 h0 rfl ?_
    refine ev_icmp_ge (tgt := 16) dLe_has_9 (by decide) (fun c9 => ?_) (fun c9 => ?_)
    · refine ev_iconst (v := nI 0) dLe_has_16 (by decide) ?_
      refine ev_iret dLe_has_17 rfl rfl ?_
      exact hf (Or.inr c9)
    · refine ev_iconst (v := nI 1) dLe_has_12 (by decide) ?_
      refine ev_goto (tgt := 17) dLe_has_13 (by decide) ?_
      refine ev_iret dLe_has_17 rfl rfl ?_
      obtain ⟨j, hj, rfl⟩ := ix_in (by omega) c1 c9
      exact ht j _ rfl (List.getElem?_eq_getElem hj)
set_option maxRecDepth 20000 in
theorem Le_isFull_ok (hL : Le h ad cs as) (ht : as.length = 100 → P (some (.int (nI 1))) h n) (hf : as.length < 100 → P (some (.int (nI 0))) h n) : ev_Run G l d bc bs mLe_isFull 0 [some (.ref (ad 19))] [] h n P := by
  obtain ⟨f1, f2, f3, f4, h0, h1, h2, h3, h4, l1, l2, e1, e2⟩ := hL
  refine ev_aload_n dLe_isFull_0 rfl rfl ?_
  refine ev_get dLe_isFull_1 fLe_29 h0 rfl ?_
  refine ev_aload_n dLe_isFull_4 rfl rfl ?_
  refine ev_get dLe_isFull_5 fLe_15 h0 rfl ?_
  refine ev_alen dLe_isFull_8 h2 rfl ?_
  refine ev_icmp_lt (tgt := 16) dLe_isFull_9 (by decide) (fun c9 => ?_) (fun c9 => ?_)
  · refine ev_iconst (v := nI 0) dLe_isFull_16 (by decide) ?_
    refine ev_iret dLe_isFull_17 rfl rfl ?_
    have hc : nI as.length < nI 100 := c9
    rw [nI_ltI (by omega) (by decide)] at hc
    exact hf hc
  · refine ev_iconst (v := nI 1) dLe_isFull_12 (by decide) ?_
    refine ev_goto (tgt := 17) dLe_isFull_13 (by decide) ?_
    refine ev_iret dLe_isFull_17 rfl rfl ?_
    have hc : ¬ nI as.length < nI 100 := c9
    rw [nI_ltI (by omega) (by decide)] at hc
    exact ht (by omega)
set_option maxRecDepth 20000 in
theorem Le_isOver_ok {i : Nat} {u y : Int32} (hL : Le h ad cs as) (hi : cs[i]? = some u) (ht : u < y → P (some (.int (nI 1))) h n) (hf : y ≤ u → P (some (.int (nI 0))) h n) : ev_Run G l (d + 1) bc bs mLe_isOver 0 [some (.ref (ad 19)), some (.int (nI i)), some (.int y)] [] h n P := by
  obtain ⟨f1, f2, f3, f4, h0, h1, h2, h3, h4, l1, l2, e1, e2⟩ := id hL
  have hil : i < cs.length := (List.getElem?_eq_some_iff.mp hi).1
  refine ev_aload_n dLe_isOver_0 rfl rfl ?_
  refine ev_iload_n dLe_isOver_1 rfl rfl ?_
  refine cz_Le_has dLe_isOver_2 lLe_32 h0 (Nat.le_of_ble_eq_true rfl) (Le_has_ok hL (fun j w q1 q2 => ?_) (fun q1 => ?_))
  · skip
    refine ev_if_eq (tgt := 22) dLe_isOver_5 (by decide) (fun q9 => absurd q9 (by decide)) (fun _ => ?_)
    refine ev_iload_n dLe_isOver_8 rfl rfl ?_
    refine ev_aload_n dLe_isOver_9 rfl rfl ?_
    refine ev_get dLe_isOver_10 fLe_11 h0 rfl ?_
    refine ev_iload_n dLe_isOver_13 rfl rfl ?_
    refine ev_iald dLe_isOver_14 h1 rfl rfl (by omega) (by decide) ?_
    refine ev_top (e1 i u hi) ?_
    refine ev_icmp_le (tgt := 22) dLe_isOver_15 (by decide) (fun c15 => ?_) (fun c15 => ?_)
    · refine ev_iconst (v := nI 0) dLe_isOver_22 (by decide) ?_
      refine ev_iret dLe_isOver_23 rfl rfl ?_
      exact hf c15
    · refine ev_iconst (v := nI 1) dLe_isOver_18 (by decide) ?_
      refine ev_goto (tgt := 23) dLe_isOver_19 (by decide) ?_
      refine ev_iret dLe_isOver_23 rfl rfl ?_
      exact ht (iI_nle c15)
  · exact absurd q1 (fun q => q.elim (nI_pos (by omega)) (nI_ge hil (by omega)))
    
set_option maxRecDepth 20000 in
theorem Le_sumUpTo_ok {c D : Int32} (hL : Le h ad cs as) (hk : P (some (.long (bal as c D))) h n) : ev_Run G l d bc bs mLe_sumUpTo 0 [some (.ref (ad 19)), some (.int c), some (.int D), none, none, none] [] h n P := by
  obtain ⟨f1, f2, f3, f4, h0, h1, h2, h3, h4, l1, l2, e1, e2⟩ := hL
  have loop : ∀ e j, j + e = as.length → ev_Run G l d bc bs mLe_sumUpTo 5 [some (.ref (ad 19)), some (.int c), some (.int D), some (.long (bal (as.take j) c D)), none, some (.int (nI j))] [] h n P := by
    intro e
    induction e with
    | zero =>
      intro j hj
      refine ev_iload dLe_sumUpTo_5 rfl ?_
      refine ev_aload_n dLe_sumUpTo_7 rfl rfl ?_
      refine ev_get dLe_sumUpTo_8 fLe_29 h0 rfl ?_
      refine ev_icmp_ge (tgt := 52) dLe_sumUpTo_11 (by decide) (fun c11 => ?_) (fun c11 => absurd (nI_le (by omega) (by omega)) c11)
      refine ev_lload_n dLe_sumUpTo_52 rfl rfl ?_
      refine ev_lret dLe_sumUpTo_53 rfl ?_
      rw [List.take_of_length_le (by omega)]
      exact hk
    | succ e ih =>
      intro j hj
      obtain ⟨a, ha⟩ : ∃ a, as[j]? = some a := ⟨_, List.getElem?_eq_getElem (by omega)⟩
      obtain ⟨x1, x2, x3⟩ := e2 j a ha
      have hi := ih (j + 1) (by omega)
      rw [bal_take ha, bal1] at hi
      refine ev_iload dLe_sumUpTo_5 rfl ?_
      refine ev_aload_n dLe_sumUpTo_7 rfl rfl ?_
      refine ev_get dLe_sumUpTo_8 fLe_29 h0 rfl ?_
      refine ev_icmp_ge (tgt := 52) dLe_sumUpTo_11 (by decide) (fun c11 => False.elim (absurd c11 (nI_ge (by omega) (by omega)))) (fun c11 => ?_)
      refine ev_aload_n dLe_sumUpTo_14 rfl rfl ?_
      refine ev_get dLe_sumUpTo_15 fLe_15 h0 rfl ?_
      refine ev_iload dLe_sumUpTo_18 rfl ?_
      refine ev_iald dLe_sumUpTo_20 h2 rfl rfl (by omega) (by decide) ?_
      refine ev_top (x1) ?_
      refine ev_iload_n dLe_sumUpTo_21 rfl rfl ?_
      refine ev_icmp_ne (tgt := 46) dLe_sumUpTo_22 (by decide) (fun c22 => ?_) (fun c22 => ?_)
      · rw [if_neg (fun z => c22 z.1)] at hi
        refine ev_iinc dLe_sumUpTo_46 rfl (ev_inc1 _) (by decide) ?_
        refine ev_goto (tgt := 5) dLe_sumUpTo_49 (by decide) ?_
        exact hi
      · refine ev_aload_n dLe_sumUpTo_25 rfl rfl ?_
        refine ev_get dLe_sumUpTo_26 fLe_18 h0 rfl ?_
        refine ev_iload dLe_sumUpTo_29 rfl ?_
        refine ev_iald dLe_sumUpTo_31 h3 rfl rfl (by omega) (by decide) ?_
        refine ev_top (x3) ?_
        refine ev_iload_n dLe_sumUpTo_32 rfl rfl ?_
        refine ev_icmp_gt (tgt := 46) dLe_sumUpTo_33 (by decide) (fun c33 => ?_) (fun c33 => ?_)
        · rw [if_neg (fun z => iI_le_nlt z.2 c33)] at hi
          refine ev_iinc dLe_sumUpTo_46 rfl (ev_inc1 _) (by decide) ?_
          refine ev_goto (tgt := 5) dLe_sumUpTo_49 (by decide) ?_
          exact hi
        · rw [if_pos ⟨c22, iI_nlt c33⟩] at hi
          refine ev_lload_n dLe_sumUpTo_36 rfl rfl ?_
          refine ev_aload_n dLe_sumUpTo_37 rfl rfl ?_
          refine ev_get dLe_sumUpTo_38 fLe_21 h0 rfl ?_
          refine ev_iload dLe_sumUpTo_41 rfl ?_
          refine ev_lald dLe_sumUpTo_43 h4 rfl rfl (by omega) (by decide) ?_
          refine ev_topl (x2) ?_
          refine ev_ladd dLe_sumUpTo_44 ?_
          refine ev_lstore_n dLe_sumUpTo_45 rfl (by decide) ?_
          refine ev_iinc dLe_sumUpTo_46 rfl (ev_inc1 _) (by decide) ?_
          refine ev_goto (tgt := 5) dLe_sumUpTo_49 (by decide) ?_
          exact hi
  refine ev_lconst (v := lN 0) dLe_sumUpTo_0 (by decide) ?_
  refine ev_lstore_n dLe_sumUpTo_1 rfl (by decide) ?_
  refine ev_iconst (v := nI 0) dLe_sumUpTo_2 (by decide) ?_
  refine ev_istore dLe_sumUpTo_3 (by decide) ?_
  exact loop as.length 0 (by omega)
set_option maxRecDepth 20000 in
set_option maxHeartbeats 1000000 in
theorem Le_covers_ok {c D : Int32} {g : Int64} (hL : Le h ad cs as) (ht : cov as c g D → P (some (.int (nI 1))) h n) (hf : ¬ cov as c g D → P (some (.int (nI 0))) h n) : ev_Run G l (d + 1) bc bs mLe_covers 0 [some (.ref (ad 19)), some (.int c), some (.long g), none, some (.int D), none, none] [] h n P := by
  obtain ⟨f1, f2, f3, f4, h0, h1, h2, h3, h4, l1, l2, e1, e2⟩ := id hL
  have loop : g ≤ bal as c D → ∀ e j w, j + e = as.length → (∀ k a, k < j → as[k]? = some a → a.1 = c → D < a.2.2 → g ≤ bal as c a.2.2) → ev_Run G l (d + 1) bc bs mLe_covers 17 [some (.ref (ad 19)), some (.int c), some (.long g), none, some (.int D), some (.int (nI j)), w] [] h n P := by
    intro hg e
    induction e with
    | zero =>
      intro j w hj hd
      refine ev_iload dLe_covers_17 rfl ?_
      refine ev_aload_n dLe_covers_19 rfl rfl ?_
      refine ev_get dLe_covers_20 fLe_29 h0 rfl ?_
      refine ev_icmp_ge (tgt := 86) dLe_covers_23 (by decide) (fun c23 => ?_) (fun c23 => absurd (nI_le (by omega) (by omega)) c23)
      refine ev_iconst (v := nI 1) dLe_covers_86 (by decide) ?_
      refine ev_iret dLe_covers_87 rfl rfl ?_
      refine ht ⟨hg, fun a ha h1 h2 => ?_⟩
      obtain ⟨k, hk⟩ := List.getElem?_of_mem ha
      exact hd k a (by have := (List.getElem?_eq_some_iff.mp hk).1; omega) hk h1 h2
    | succ e ih =>
      intro j w hj hd
      obtain ⟨a, ha⟩ : ∃ a, as[j]? = some a := ⟨_, List.getElem?_eq_getElem (by omega)⟩
      obtain ⟨x1, x2, x3⟩ := e2 j a ha
      have hi := fun (hz : a.1 = c → D < a.2.2 → g ≤ bal as c a.2.2) w => ih (j + 1) w (by omega) (fun k b hk hb => by
        rcases Nat.lt_or_ge k j with q | q
        · exact hd k b q hb
        · have : k = j := by omega
          subst this
          rw [ha] at hb
          cases hb
          exact hz)
      refine ev_iload dLe_covers_17 rfl ?_
      refine ev_aload_n dLe_covers_19 rfl rfl ?_
      refine ev_get dLe_covers_20 fLe_29 h0 rfl ?_
      refine ev_icmp_ge (tgt := 86) dLe_covers_23 (by decide) (fun c23 => False.elim (absurd c23 (nI_ge (by omega) (by omega)))) (fun c23 => ?_)
      refine ev_aload_n dLe_covers_26 rfl rfl ?_
      refine ev_get dLe_covers_27 fLe_15 h0 rfl ?_
      refine ev_iload dLe_covers_30 rfl ?_
      refine ev_iald dLe_covers_32 h2 rfl rfl (by omega) (by decide) ?_
      refine ev_top (x1) ?_
      refine ev_iload_n dLe_covers_33 rfl rfl ?_
      refine ev_icmp_ne (tgt := 53) dLe_covers_34 (by decide) (fun c34 => ?_) (fun c34 => ?_)
      · refine ev_iconst (v := nI 0) dLe_covers_53 (by decide) ?_
        refine ev_istore dLe_covers_54 (by decide) ?_
        refine ev_iload dLe_covers_56 rfl ?_
        refine ev_if_eq (tgt := 80) dLe_covers_58 (by decide) (fun c58 => ?_) (fun c58 => absurd ((by decide)) c58)
        refine ev_iinc dLe_covers_80 rfl (ev_inc1 _) (by decide) ?_
        refine ev_goto (tgt := 17) dLe_covers_83 (by decide) ?_
        exact hi (fun z => absurd z c34) _
      · refine ev_aload_n dLe_covers_37 rfl rfl ?_
        refine ev_get dLe_covers_38 fLe_18 h0 rfl ?_
        refine ev_iload dLe_covers_41 rfl ?_
        refine ev_iald dLe_covers_43 h3 rfl rfl (by omega) (by decide) ?_
        refine ev_top (x3) ?_
        refine ev_iload dLe_covers_44 rfl ?_
        refine ev_icmp_le (tgt := 53) dLe_covers_46 (by decide) (fun c46 => ?_) (fun c46 => ?_)
        · refine ev_iconst (v := nI 0) dLe_covers_53 (by decide) ?_
          refine ev_istore dLe_covers_54 (by decide) ?_
          refine ev_iload dLe_covers_56 rfl ?_
          refine ev_if_eq (tgt := 80) dLe_covers_58 (by decide) (fun c58 => ?_) (fun c58 => absurd ((by decide)) c58)
          refine ev_iinc dLe_covers_80 rfl (ev_inc1 _) (by decide) ?_
          refine ev_goto (tgt := 17) dLe_covers_83 (by decide) ?_
          exact hi (fun _ z => absurd z (iI_le_nlt c46)) _
        · refine ev_iconst (v := nI 1) dLe_covers_49 (by decide) ?_
          refine ev_goto (tgt := 54) dLe_covers_50 (by decide) ?_
          refine ev_istore dLe_covers_54 (by decide) ?_
          refine ev_iload dLe_covers_56 rfl ?_
          refine ev_if_eq (tgt := 80) dLe_covers_58 (by decide) (fun c58 => False.elim (absurd c58 (by decide))) (fun c58 => ?_)
          refine ev_aload_n dLe_covers_61 rfl rfl ?_
          refine ev_iload_n dLe_covers_62 rfl rfl ?_
          refine ev_aload_n dLe_covers_63 rfl rfl ?_
          refine ev_get dLe_covers_64 fLe_18 h0 rfl ?_
          refine ev_iload dLe_covers_67 rfl ?_
          refine ev_iald dLe_covers_69 h3 rfl rfl (by omega) (by decide) ?_
          refine ev_top (x3) ?_
          refine cz_Le_sumUpTo dLe_covers_70 lLe_40 h0 (Nat.le_of_ble_eq_true rfl) (Le_sumUpTo_ok hL ?_)
          refine ev_lload_n dLe_covers_73 rfl rfl ?_
          refine ev_lcmp_ge (tgt := 80) dLe_covers_74 dLe_covers_75 (by decide) (fun c74 => ?_) (fun c74 => ?_)
          · refine ev_iinc dLe_covers_80 rfl (ev_inc1 _) (by decide) ?_
            refine ev_goto (tgt := 17) dLe_covers_83 (by decide) ?_
            exact hi (fun _ _ => c74) _
          · refine ev_iconst (v := nI 0) dLe_covers_78 (by decide) ?_
            refine ev_iret dLe_covers_79 rfl rfl ?_
            exact hf (fun z => c74 (z.2 a (List.mem_of_getElem? ha) c34 (iI_nle c46)))
  refine ev_aload_n dLe_covers_0 rfl rfl ?_
  refine ev_iload_n dLe_covers_1 rfl rfl ?_
  refine ev_iload dLe_covers_2 rfl ?_
  refine cz_Le_sumUpTo dLe_covers_4 lLe_40 h0 (Nat.le_of_ble_eq_true rfl) (Le_sumUpTo_ok hL ?_)
  refine ev_lload_n dLe_covers_7 rfl rfl ?_
  refine ev_lcmp_ge (tgt := 14) dLe_covers_8 dLe_covers_9 (by decide) (fun c8 => ?_) (fun c8 => ?_)
  · refine ev_iconst (v := nI 0) dLe_covers_14 (by decide) ?_
    refine ev_istore dLe_covers_15 (by decide) ?_
    exact loop c8 as.length 0 none (by omega) (fun k a hk => absurd hk (by omega))
  · refine ev_iconst (v := nI 0) dLe_covers_12 (by decide) ?_
    refine ev_iret dLe_covers_13 rfl rfl ?_
    exact hf (fun z => c8 z.1)
end LE
