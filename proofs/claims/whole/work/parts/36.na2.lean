/-! the reader: numbers, rules -/
def sb {α β : Type} (r : Nat ⊕ α) (f : α → Nat ⊕ β) : Nat ⊕ β := match r with
  | .inl e => .inl e
  | .inr x => f x
def nru (ys : List Int32) (full : Bool) (a : Nat) : Nat ⊕ (sU × Nat) :=
  sb (nnu ys (nI 0) (if full then -1 else nI 99) a) fun p => sb (nsg ys (nI 58) p.2) fun a2 => sb (nnu ys (nI 0) (nI 999) a2) fun q => sb (nsg ys (nI 45) q.2) fun a4 => sb (nnu ys q.1 (nI 999) a4) fun r => sb (nsg ys (nI 44) r.2) fun a6 => sb (nnu ys (nI 0) (nI 999999) a6) fun s => sb (nsg ys (nI 59) s.2) fun a8 => .inr ((p.1, q.1, r.1, s.1), a8)
def nrs (ys : List Int32) : Nat → Nat → List sU → Nat ⊕ List sU
  | 0, _, us => .inr us
  | k + 1, a, us => if ys.length ≤ a then .inr us else sb (nru ys (decide (us.length = 40)) a) fun p => nrs ys k (skp ys p.2) (us ++ [p.1])
/-- what the text of names is: the fault's place, or the rules -/
def nms (ys : List Int32) : Nat ⊕ List sU := nrs ys 41 (skp ys 0) []
theorem nru_full {ys : List Int32} {a : Nat} : ∃ e, nru ys true a = .inl e := by
  have : ∃ e, nnu ys (nI 0) (-1) a = .inl e := by
    unfold nnu
    split
    · exact ⟨_, rfl⟩
    · split
      · exact ⟨_, rfl⟩
      · rename_i z
        exfalso
        apply z
        generalize (dgc ys 6 (skp ys a) 0).1 = w
        by_cases q : w < nI 0
        · exact Or.inl q
        · right
          have h1 := iI_nlt q
          have : (-1 : Int32) < nI 0 := by decide
          rw [Int32.lt_iff_toInt_lt] at this ⊢
          rw [Int32.le_iff_toInt_le] at h1
          omega
  obtain ⟨e, he⟩ := this
  exact ⟨e, by unfold nru; rw [show (if true = true then (-1 : Int32) else nI 99) = -1 from rfl, he]; rfl⟩
abbrev num_r (ys : List Int32) (lo hi : Int32) (a a' : Nat) (v v' w : Int32) : Prop := (v = -1 → match nnu ys lo hi a with | .inl e => v' = nI e | .inr p => v' = -1 ∧ w = p.1 ∧ a' = p.2) ∧ (¬ v = -1 → v' = v)
abbrev sgn_r (ys : List Int32) (c : Int32) (a a' : Nat) (v v' : Int32) : Prop := (v = -1 → match nsg ys c a with | .inl e => v' = nI e | .inr p => v' = -1 ∧ a' = p) ∧ (¬ v = -1 → v' = v)
section NA2
variable {G : xG} {l : Launch} {d bc bs : Nat} {h : xH} {n : Nat} {P : Option Value → xH → Nat → Prop} {ad tg : Nat → Nat} {T : Nat} {ys : List Int32} {a : Nat} {v : Int32}
set_option maxRecDepth 20000 in
set_option maxHeartbeats 1000000 in
theorem Na_number_ok {lo hi : Int32} (hA : ad_ok ad tg T) (hB : By h (ad 6) (ad 7) 400 ys) (h8 : h (ad 8) = some (Na_c ad a v)) (ha : a ≤ ys.length) (hk : ∀ h' a' v' w, h' (ad 8) = some (Na_c ad a' v') → hp_off [ad 8] h h' → a' ≤ ys.length → num_r ys lo hi a a' v v' w → P (some (.int w)) h' n) : ev_Run G l (d + 3) bc bs mNa_readNumber 0 [some (.ref (ad 8)), some (.int lo), some (.int hi), none, none, none] [] h n P := by
  have hl := hB.len
  have hs := skp_le ha
  have tail : ∀ b w x h', dgc ys 6 (skp ys a) 0 = (w, b) → h' (ad 8) = some (Na_c ad b v) → hp_off [ad 8] h h' → ev_Run G l (d + 3) bc bs mNa_readNumber 67 [some (.ref (ad 8)), some (.int lo), some (.int hi), some (.int (nI (skp ys a))), some (.int w), x] [] h' n P := by
    intro b w x h' hd hb8 ho
    have hB' := hB.k8 hA ho
    have hb := dgc_le (ys := ys) (by omega) 6 (skp ys a) 0 hs
    rw [hd] at hb
    have hb : b ≤ ys.length := hb
    have hn : nnu ys lo hi a = if b = skp ys a ∨ dig (by_at ys (nI b)) then .inl b else if w < lo ∨ hi < w then .inl (skp ys a) else .inr (w, b) := by rw [nnu, hd]
    refine ev_aload_n dNa_readNumber_67 rfl rfl ?_
    refine ev_get dNa_readNumber_68 fNa_27 hb8 rfl ?_
    refine ev_iload_n dNa_readNumber_71 rfl rfl ?_
    refine ev_icmp_eq (tgt := 82) dNa_readNumber_72 (by decide) (fun c72 => ?_) (fun c72 => ?_)
    · have e72 : b = skp ys a := (nI_eq (by omega) (by omega)).mp c72
      refine ev_aload_n dNa_readNumber_82 rfl rfl ?_
      refine ev_aload_n dNa_readNumber_83 rfl rfl ?_
      refine ev_get dNa_readNumber_84 fNa_27 hb8 rfl ?_
      refine cz_Na_fail dNa_readNumber_87 lNa_72 hb8 (Nat.le_of_ble_eq_true rfl) (Na_fail_ok hb8 (fun h2 q2 o2 => ?_))
      refine ev_goto (tgt := 110) dNa_readNumber_90 (by decide) ?_
      refine ev_iload dNa_readNumber_110 rfl ?_
      refine ev_iret dNa_readNumber_112 rfl rfl ?_
      refine hk _ _ _ _ q2 (ho.tr o2) hb ⟨fun z => ?_, fun z => if_neg z⟩
      rw [hn, if_pos (Or.inl e72)]
      exact if_pos z
    · have e72 : ¬ b = skp ys a := fun z => c72 (by rw [z])
      refine ev_aload_n dNa_readNumber_75 rfl rfl ?_
      refine cz_Na_isDigit dNa_readNumber_76 lNa_65 hb8 (Nat.le_of_ble_eq_true rfl) (Na_isDigit_ok hB' hb8 (fun q1 => ?_) (fun q1 => ?_))
      · refine ev_if_eq (tgt := 93) dNa_readNumber_79 (by decide) (fun q9 => absurd q9 (by decide)) (fun _ => ?_)
        refine ev_aload_n dNa_readNumber_82 rfl rfl ?_
        refine ev_aload_n dNa_readNumber_83 rfl rfl ?_
        refine ev_get dNa_readNumber_84 fNa_27 hb8 rfl ?_
        refine cz_Na_fail dNa_readNumber_87 lNa_72 hb8 (Nat.le_of_ble_eq_true rfl) (Na_fail_ok hb8 (fun h2 q2 o2 => ?_))
        refine ev_goto (tgt := 110) dNa_readNumber_90 (by decide) ?_
        refine ev_iload dNa_readNumber_110 rfl ?_
        refine ev_iret dNa_readNumber_112 rfl rfl ?_
        refine hk _ _ _ _ q2 (ho.tr o2) hb ⟨fun z => ?_, fun z => if_neg z⟩
        rw [hn, if_pos (Or.inr q1)]
        exact if_pos z
      · refine ev_if_eq (tgt := 93) dNa_readNumber_79 (by decide) (fun _ => ?_) (fun q9 => absurd (by decide) q9)
        refine ev_iload dNa_readNumber_93 rfl ?_
        refine ev_iload_n dNa_readNumber_95 rfl rfl ?_
        refine ev_icmp_lt (tgt := 105) dNa_readNumber_96 (by decide) (fun c96 => ?_) (fun c96 => ?_)
        · refine ev_aload_n dNa_readNumber_105 rfl rfl ?_
          refine ev_iload_n dNa_readNumber_106 rfl rfl ?_
          refine cz_Na_fail dNa_readNumber_107 lNa_72 hb8 (Nat.le_of_ble_eq_true rfl) (Na_fail_ok hb8 (fun h2 q2 o2 => ?_))
          refine ev_iload dNa_readNumber_110 rfl ?_
          refine ev_iret dNa_readNumber_112 rfl rfl ?_
          refine hk _ _ _ _ q2 (ho.tr o2) hb ⟨fun z => ?_, fun z => if_neg z⟩
          rw [hn, if_neg (fun q => q.elim e72 q1), if_pos (Or.inl c96)]
          exact if_pos z
        · refine ev_iload dNa_readNumber_99 rfl ?_
          refine ev_iload_n dNa_readNumber_101 rfl rfl ?_
          refine ev_icmp_le (tgt := 110) dNa_readNumber_102 (by decide) (fun c102 => ?_) (fun c102 => ?_)
          · refine ev_iload dNa_readNumber_110 rfl ?_
            refine ev_iret dNa_readNumber_112 rfl rfl ?_
            refine hk _ _ v _ hb8 ho hb ⟨fun z => ?_, fun z => rfl⟩
            rw [hn, if_neg (fun q => q.elim e72 q1), if_neg (fun q => q.elim c96 (fun q => iI_le_nlt c102 q))]
            exact ⟨z, rfl, rfl⟩
          · refine ev_aload_n dNa_readNumber_105 rfl rfl ?_
            refine ev_iload_n dNa_readNumber_106 rfl rfl ?_
            refine cz_Na_fail dNa_readNumber_107 lNa_72 hb8 (Nat.le_of_ble_eq_true rfl) (Na_fail_ok hb8 (fun h2 q2 o2 => ?_))
            refine ev_iload dNa_readNumber_110 rfl ?_
            refine ev_iret dNa_readNumber_112 rfl rfl ?_
            refine hk _ _ _ _ q2 (ho.tr o2) hb ⟨fun z => ?_, fun z => if_neg z⟩
            rw [hn, if_neg (fun q => q.elim e72 q1), if_pos (Or.inr (iI_nle c102))]
            exact if_pos z
  have loop : ∀ e j b w h', j + e = 6 → b ≤ ys.length → dgc ys e b w = dgc ys 6 (skp ys a) 0 → h' (ad 8) = some (Na_c ad b v) → hp_off [ad 8] h h' → ev_Run G l (d + 3) bc bs mNa_readNumber 15 [some (.ref (ad 8)), some (.int lo), some (.int hi), some (.int (nI (skp ys a))), some (.int w), some (.int (nI j))] [] h' n P := by
    intro e
    induction e with
    | zero =>
      intro j b w h' hj hb hd hb8 ho
      refine ev_iload dNa_readNumber_15 rfl ?_
      refine ev_bipush (v := nI 6) dNa_readNumber_17 (by decide) ?_
      refine ev_icmp_ge (tgt := 67) dNa_readNumber_19 (by decide) (fun c19 => ?_) (fun c19 => absurd (nI_le (by omega) (by omega)) c19)
      exact tail b w _ h' hd.symm hb8 ho
    | succ e ih =>
      intro j b w h' hj hb hd hb8 ho
      have hB' := hB.k8 hA ho
      rw [dgc] at hd
      refine ev_iload dNa_readNumber_15 rfl ?_
      refine ev_bipush (v := nI 6) dNa_readNumber_17 (by decide) ?_
      refine ev_icmp_ge (tgt := 67) dNa_readNumber_19 (by decide) (fun c19 => False.elim (absurd c19 (nI_ge (by omega) (by omega)))) (fun c19 => ?_)
      refine ev_aload_n dNa_readNumber_22 rfl rfl ?_
      refine cz_Na_isDigit dNa_readNumber_23 lNa_65 hb8 (Nat.le_of_ble_eq_true rfl) (Na_isDigit_ok hB' hb8 (fun q1 => ?_) (fun q1 => ?_))
      · rw [if_pos q1] at hd
        refine ev_if_eq (tgt := 67) dNa_readNumber_26 (by decide) (fun q9 => absurd q9 (by decide)) (fun _ => ?_)
        refine ev_iload dNa_readNumber_29 rfl ?_
        refine ev_bipush (v := nI 10) dNa_readNumber_31 (by decide) ?_
        refine ev_imul dNa_readNumber_33 ?_
        refine ev_aload_n dNa_readNumber_34 rfl rfl ?_
        refine ev_get dNa_readNumber_35 fNa_16 hb8 rfl ?_
        refine ev_aload_n dNa_readNumber_38 rfl rfl ?_
        refine ev_get dNa_readNumber_39 fNa_27 hb8 rfl ?_
        refine cz_By_byteAt dNa_readNumber_42 lNa_68 hB'.obj (Nat.le_of_ble_eq_true rfl) (By_byteAt_ok hB' ?_)
        refine ev_iadd dNa_readNumber_45 ?_
        refine ev_bipush (v := nI 48) dNa_readNumber_46 (by decide) ?_
        refine ev_isub dNa_readNumber_48 ?_
        refine ev_istore dNa_readNumber_49 (by decide) ?_
        refine ev_aload_n dNa_readNumber_51 rfl rfl ?_
        refine ev_dup dNa_readNumber_52 rfl ?_
        refine ev_get dNa_readNumber_53 fNa_27 hb8 rfl ?_
        refine ev_iconst (v := nI 1) dNa_readNumber_56 (by decide) ?_
        refine ev_iadd dNa_readNumber_57 ?_
        refine ev_top (nI_add _ _) ?_
        refine ev_put dNa_readNumber_58 fNa_27 tNa_1 hb8 rfl rfl (Nat.le_of_ble_eq_true rfl) ?_
        refine ev_iinc dNa_readNumber_61 rfl (ev_inc1 _) (by decide) ?_
        refine ev_goto (tgt := 15) dNa_readNumber_64 (by decide) ?_
        exact ih (j + 1) (b + 1) _ _ (by omega) (by_at_lt (ys := ys) (by omega) (dig_ne q1)).2 hd ((hp_set_self _ _ _).trans rfl) (ho.set (by simp))
      · rw [if_neg q1] at hd
        refine ev_if_eq (tgt := 67) dNa_readNumber_26 (by decide) (fun _ => ?_) (fun q9 => absurd (by decide) q9)
        exact tail b w _ h' hd.symm hb8 ho
  refine ev_aload_n dNa_readNumber_0 rfl rfl ?_
  refine cz_Na_skipBlanks dNa_readNumber_1 lNa_37 h8 (Nat.le_of_ble_eq_true rfl) (Na_skip_ok hA hB h8 ha (fun h1 q1 o1 => ?_))
  refine ev_aload_n dNa_readNumber_4 rfl rfl ?_
  refine ev_get dNa_readNumber_5 fNa_27 q1 rfl ?_
  refine ev_istore_n dNa_readNumber_8 rfl (by decide) ?_
  refine ev_iconst (v := nI 0) dNa_readNumber_9 (by decide) ?_
  refine ev_istore dNa_readNumber_10 (by decide) ?_
  refine ev_iconst (v := nI 0) dNa_readNumber_12 (by decide) ?_
  refine ev_istore dNa_readNumber_13 (by decide) ?_
  exact loop 6 0 (skp ys a) _ h1 (by omega) hs rfl q1 o1
theorem nru_chain {full : Bool} {a0 a1 a2 a3 a4 a5 a6 a7 a8 : Nat} {v1 v2 v3 v4 v5 v6 v7 v8 w1 w2 w3 w4 : Int32} (hl : ys.length ≤ 400) (b0 : a0 ≤ ys.length) (b1 : a1 ≤ ys.length) (b2 : a2 ≤ ys.length) (b3 : a3 ≤ ys.length) (b4 : a4 ≤ ys.length) (b5 : a5 ≤ ys.length) (b6 : a6 ≤ ys.length) (b7 : a7 ≤ ys.length)
    (r1 : num_r ys (nI 0) (if full then -1 else nI 99) a0 a1 (-1) v1 w1) (r2 : sgn_r ys (nI 58) a1 a2 v1 v2) (r3 : num_r ys (nI 0) (nI 999) a2 a3 v2 v3 w2) (r4 : sgn_r ys (nI 45) a3 a4 v3 v4) (r5 : num_r ys w2 (nI 999) a4 a5 v4 v5 w3) (r6 : sgn_r ys (nI 44) a5 a6 v5 v6) (r7 : num_r ys (nI 0) (nI 999999) a6 a7 v6 v7 w4) (r8 : sgn_r ys (nI 59) a7 a8 v7 v8) :
    match nru ys full a0 with | .inl e => v8 = nI e ∧ e ≤ 400 | .inr p => v8 = -1 ∧ p = ((w1, w2, w3, w4), a8) := by
  have no : ∀ e x : Nat, e ≤ ys.length → ¬ nI e = -1 := fun e _ he => nI_ne1 (by omega)
  have t1 := nnu_bd (ys := ys) (lo := nI 0) (hi := if full then -1 else nI 99) (by omega) b0
  have s1 := r1.1 rfl
  unfold nru
  cases h1 : nnu ys (nI 0) (if full then -1 else nI 99) a0 with
  | inl e =>
    rw [h1] at s1 t1; simp only [] at s1 t1; subst s1
    have z := no e 0 t1
    have e2 := r2.2 z; subst e2; have e3 := r3.2 z; subst e3; have e4 := r4.2 z; subst e4; have e5 := r5.2 z; subst e5; have e6 := r6.2 z; subst e6; have e7 := r7.2 z; subst e7
    exact ⟨r8.2 z, by omega⟩
  | inr p =>
    rw [h1] at s1 t1; simp only [] at s1 t1; obtain ⟨rfl, rfl, rfl⟩ := s1
    have t2 := nsg_bd (ys := ys) (c := nI 58) (by decide) (by omega) b1
    have s2 := r2.1 rfl
    simp only [sb]
    cases h2 : nsg ys (nI 58) p.2 with
    | inl e =>
      rw [h2] at s2 t2; simp only [] at s2 t2; subst s2
      have z := no e 0 t2
      have e3 := r3.2 z; subst e3; have e4 := r4.2 z; subst e4; have e5 := r5.2 z; subst e5; have e6 := r6.2 z; subst e6; have e7 := r7.2 z; subst e7
      exact ⟨r8.2 z, by omega⟩
    | inr p2 =>
      rw [h2] at s2 t2; simp only [] at s2 t2; obtain ⟨rfl, rfl⟩ := s2
      have t3 := nnu_bd (ys := ys) (lo := nI 0) (hi := nI 999) (by omega) b2
      have s3 := r3.1 rfl
      simp only []
      cases h3 : nnu ys (nI 0) (nI 999) a2 with
      | inl e =>
        rw [h3] at s3 t3; simp only [] at s3 t3; subst s3
        have z := no e 0 t3
        have e4 := r4.2 z; subst e4; have e5 := r5.2 z; subst e5; have e6 := r6.2 z; subst e6; have e7 := r7.2 z; subst e7
        exact ⟨r8.2 z, by omega⟩
      | inr q =>
        rw [h3] at s3 t3; simp only [] at s3 t3; obtain ⟨rfl, rfl, rfl⟩ := s3
        have t4 := nsg_bd (ys := ys) (c := nI 45) (by decide) (by omega) b3
        have s4 := r4.1 rfl
        simp only []
        cases h4 : nsg ys (nI 45) q.2 with
        | inl e =>
          rw [h4] at s4 t4; simp only [] at s4 t4; subst s4
          have z := no e 0 t4
          have e5 := r5.2 z; subst e5; have e6 := r6.2 z; subst e6; have e7 := r7.2 z; subst e7
          exact ⟨r8.2 z, by omega⟩
        | inr p4 =>
          rw [h4] at s4 t4; simp only [] at s4 t4; obtain ⟨rfl, rfl⟩ := s4
          have t5 := nnu_bd (ys := ys) (lo := q.1) (hi := nI 999) (by omega) b4
          have s5 := r5.1 rfl
          simp only []
          cases h5 : nnu ys q.1 (nI 999) a4 with
          | inl e =>
            rw [h5] at s5 t5; simp only [] at s5 t5; subst s5
            have z := no e 0 t5
            have e6 := r6.2 z; subst e6; have e7 := r7.2 z; subst e7
            exact ⟨r8.2 z, by omega⟩
          | inr r =>
            rw [h5] at s5 t5; simp only [] at s5 t5; obtain ⟨rfl, rfl, rfl⟩ := s5
            have t6 := nsg_bd (ys := ys) (c := nI 44) (by decide) (by omega) b5
            have s6 := r6.1 rfl
            simp only []
            cases h6 : nsg ys (nI 44) r.2 with
            | inl e =>
              rw [h6] at s6 t6; simp only [] at s6 t6; subst s6
              have z := no e 0 t6
              have e7 := r7.2 z; subst e7
              exact ⟨r8.2 z, by omega⟩
            | inr p6 =>
              rw [h6] at s6 t6; simp only [] at s6 t6; obtain ⟨rfl, rfl⟩ := s6
              have t7 := nnu_bd (ys := ys) (lo := nI 0) (hi := nI 999999) (by omega) b6
              have s7 := r7.1 rfl
              simp only []
              cases h7 : nnu ys (nI 0) (nI 999999) a6 with
              | inl e =>
                rw [h7] at s7 t7; simp only [] at s7 t7; subst s7
                exact ⟨r8.2 (no e 0 t7), by omega⟩
              | inr s =>
                rw [h7] at s7 t7; simp only [] at s7 t7; obtain ⟨rfl, rfl, rfl⟩ := s7
                have t8 := nsg_bd (ys := ys) (c := nI 59) (by decide) (by omega) b7
                have s8 := r8.1 rfl
                simp only []
                cases h8 : nsg ys (nI 59) s.2 with
                | inl e => rw [h8] at s8 t8; simp only [] at s8 t8; exact ⟨s8, by omega⟩
                | inr p8 => rw [h8] at s8 t8; simp only [] at s8 t8; exact ⟨s8.1, by rw [s8.2]⟩
end NA2
