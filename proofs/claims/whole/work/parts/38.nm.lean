/-! the reader: the whole text; names, name, unit -/
abbrev nm_S (ad : Nat → Nat) : List Nat := [ad 0, ad 6, ad 7, ad 8, ad 9, ad 10, ad 11, ad 12, ad 13, ad 14, ad 15, ad 16, ad 17, ad 18]
def names_s (ys : List Int32) (us : List sU) : Int32 × List sU := match nms ys with
  | .inl e => (-1 - nI e, us)
  | .inr u => (nI u.length, u)
def unit_s (ys : List Int32) (x : Int32) : Int32 × List Int32 := if ys.length < 400 then (nI 1, ys ++ [x &&& nI 255]) else (nI 0, ys)
def nm_b (ts : List sT) (u : sU) (j : Nat) : Bool := match ts[j]? with
  | some t => decide (t_kind t = 1 ∧ u.2.1 ≤ nI (t_mark t) ∧ nI (t_mark t) ≤ u.2.2.1)
  | none => false
abbrev nm_ok (ts : List sT) (u : sU) (j : Nat) : Prop := nm_b ts u j = true
theorem nm_iff {ts : List sT} {u : sU} {j : Nat} : nm_ok ts u j ↔ ∃ t, ts[j]? = some t ∧ t_kind t = 1 ∧ u.2.1 ≤ nI (t_mark t) ∧ nI (t_mark t) ≤ u.2.2.1 := by
  unfold nm_ok nm_b
  cases ts[j]? with
  | none => simp
  | some t => simp
def name_s (ts : List sT) (us : List sU) (b c D : Int32) : Int32 := match fnd ts b with
  | none => nI 0
  | some p => if t_ls p.2 = [] then nI 0 else match frc us c D us.length with
    | none => nI 0
    | some r => match us[r]? with
      | none => nI 0
      | some u => if ∀ q ∈ t_ls p.2, nm_ok ts u q.1 then nI 1 else nI 0
def XN (h : xH) (ad : Nat → Nat) (lr lq : Nat) (ys : List Int32) (us : List sU) : Prop := By h (ad 6) (ad 7) 400 ys ∧ (∃ a v, h (ad 8) = some (Na_c ad a v)) ∧ Ru h ad lr us ∧ (∃ us2, Ru h ad lq us2) ∧ (lr = 9 ∧ lq = 14 ∨ lr = 14 ∧ lq = 9)
section NM
variable {G : xG} {l : Launch} {d bc bs : Nat} {h : xH} {n n0 : Nat} {P : Option Value → xH → Nat → Prop} {ad tg : Nat → Nat} {T r lr lq : Nat} {ys : List Int32} {a : Nat} {us : List sU} {ts : List sT}
set_option maxRecDepth 20000 in
set_option maxHeartbeats 1000000 in
theorem Na_read_ok {v : Int32} (hA : ad_ok ad tg T) (hr : 8 < r ∧ r + 4 < 26) (hB : By h (ad 6) (ad 7) 400 ys) (hR : Ru h ad r us) (h8 : h (ad 8) = some (Na_c ad a v)) (hk : ∀ h' a' v' us', h' (ad 8) = some (Na_c ad a' v') → hp_off (na_S ad r) h h' → Ru h' ad r us' → (match nms ys with | .inl e => v' = nI e ∧ e ≤ 400 | .inr u => v' = -1 ∧ us' = u) → P (some (.int v')) h' n) : ev_Run G l (d + 5) bc bs mNa_read 0 [some (.ref (ad 8)), some (.ref (ad r)), none] [] h n P := by
  have hl := hB.len
  have n8 : ad 8 ∉ ru_S ad r := by
    have ne : ∀ j k, j < 26 → k < 26 → j ≠ k → ad j ≠ ad k := fun j k hj hk => ad_ne hA (Or.inl hj) (Or.inl hk)
    simp only [List.mem_cons, List.not_mem_nil, or_false]
    rintro (e | e | e | e | e) <;> exact ne _ _ (by omega) (by omega) (by omega) e
  have fin : ∀ e b v' us' x h', ¬ v' = -1 → h' (ad 8) = some (Na_c ad b v') → hp_off (na_S ad r) h h' → Ru h' ad r us' → nms ys = .inl e → v' = nI e → e ≤ 400 → ev_Run G l (d + 5) bc bs mNa_read 20 [some (.ref (ad 8)), some (.ref (ad r)), some (.int x)] [] h' n P := by
    intro e b v' us' x h' hv q8 ho hR' hq hve he
    refine ev_iload_n dNa_read_20 rfl rfl ?_
    refine ev_bipush (v := nI 40) dNa_read_21 (by decide) ?_
    refine ev_icmp_gt (tgt := 63) dNa_read_23 (by decide) (fun c23 => ?_) (fun c23 => ?_)
    · refine ev_aload_n dNa_read_63 rfl rfl ?_
      refine ev_get dNa_read_64 fNa_31 q8 rfl ?_
      refine ev_iret dNa_read_67 rfl rfl ?_
      exact hk _ b v' us' q8 ho hR' (by rw [hq]; exact ⟨hve, he⟩)
    · refine ev_aload_n dNa_read_26 rfl rfl ?_
      refine ev_get dNa_read_27 fNa_31 q8 rfl ?_
      refine ev_iconst (v := -1) dNa_read_30 (by decide) ?_
      refine ev_icmp_ne (tgt := 63) dNa_read_31 (by decide) (fun c31 => ?_) (fun c31 => ?_)
      · skip
        refine ev_aload_n dNa_read_63 rfl rfl ?_
        refine ev_get dNa_read_64 fNa_31 q8 rfl ?_
        refine ev_iret dNa_read_67 rfl rfl ?_
        exact hk _ b v' us' q8 ho hR' (by rw [hq]; exact ⟨hve, he⟩)
      · exact absurd c31 hv
        
  have loop : ∀ e j b us' h', j + e = 41 → us'.length = j → b ≤ ys.length → nms ys = nrs ys e b us' → h' (ad 8) = some (Na_c ad b (-1)) → Ru h' ad r us' → hp_off (na_S ad r) h h' → ev_Run G l (d + 5) bc bs mNa_read 20 [some (.ref (ad 8)), some (.ref (ad r)), some (.int (nI j))] [] h' n P := by
    intro e
    induction e with
    | zero =>
      intro j b us' h' hj hu hb hn q8 hR' ho
      exact absurd hR'.len (by omega)
    | succ e ih =>
      intro j b us' h' hj hu hb hn q8 hR' ho
      have hB' := hB.kR hA hr ho
      rw [nrs] at hn
      refine ev_iload_n dNa_read_20 rfl rfl ?_
      refine ev_bipush (v := nI 40) dNa_read_21 (by decide) ?_
      refine ev_icmp_gt (tgt := 63) dNa_read_23 (by decide) (fun c23 => False.elim (absurd c23 (iI_le_nlt ((nI_leI (by omega) (by decide)).mpr (by omega))))) (fun c23 => ?_)
      refine ev_aload_n dNa_read_26 rfl rfl ?_
      refine ev_get dNa_read_27 fNa_31 q8 rfl ?_
      refine ev_iconst (v := -1) dNa_read_30 (by decide) ?_
      refine ev_icmp_ne (tgt := 63) dNa_read_31 (by decide) (fun c31 => False.elim (absurd rfl c31)) (fun c31 => ?_)
      refine ev_aload_n dNa_read_34 rfl rfl ?_
      refine ev_get dNa_read_35 fNa_27 q8 rfl ?_
      refine ev_aload_n dNa_read_38 rfl rfl ?_
      refine ev_get dNa_read_39 fNa_16 q8 rfl ?_
      refine cz_By_size dNa_read_42 lNa_40 hB'.obj (Nat.le_of_ble_eq_true rfl) (By_size_ok hB' ?_)
      refine ev_icmp_ge (tgt := 63) dNa_read_45 (by decide) (fun c45 => ?_) (fun c45 => ?_)
      · have c45' := (nI_leI (by omega) (by omega)).mp c45
        rw [if_pos c45'] at hn
        refine ev_aload_n dNa_read_63 rfl rfl ?_
        refine ev_get dNa_read_64 fNa_31 q8 rfl ?_
        refine ev_iret dNa_read_67 rfl rfl ?_
        exact hk _ b (-1) us' q8 ho hR' (by rw [hn]; exact ⟨rfl, rfl⟩)
      · have c45' : ¬ ys.length ≤ b := fun z => c45 ((nI_leI (by omega) (by omega)).mpr z)
        rw [if_neg c45'] at hn
        refine ev_aload_n dNa_read_48 rfl rfl ?_
        refine ev_aload_n dNa_read_49 rfl rfl ?_
        refine cz_Na_readRule dNa_read_50 lNa_44 q8 (Nat.le_of_ble_eq_true rfl) (Na_rule_ok hA hr hB' hR' q8 hb (fun h1 a1 v1 us1 q1 o1 b1 R1 m1 => ?_))
        have B1 := hB'.kR hA hr o1
        refine ev_aload_n dNa_read_53 rfl rfl ?_
        refine cz_Na_skipBlanks dNa_read_54 lNa_37 q1 (Nat.le_of_ble_eq_true rfl) (Na_skip_ok hA B1 q1 b1 (fun h2 q2 o2 => ?_))
        have R2 := R1.k8 hA hr o2
        have O := (ho.tr o1).tr (off8 o2)
        refine ev_iinc dNa_read_57 rfl (ev_inc1 _) (by decide) ?_
        refine ev_goto (tgt := 20) dNa_read_60 (by decide) ?_
        cases hq : nru ys (decide (us'.length = 40)) b with | inl e1 => (rw [hq] at m1 hn; obtain ⟨m2, m3, m4⟩ := m1; exact fin e1 _ v1 us1 _ h2 (by rw [m2]; exact nI_ne1 (by omega)) q2 O R2 hn m2 m3) | inr p => (rw [hq] at m1 hn; obtain ⟨m2, m3, m4⟩ := m1; subst m2; subst m3; subst m4; exact ih (j + 1) _ _ h2 (by omega) (by simp; omega) (skp_le b1) hn q2 R2 O)
  have go : ∀ H, H (ad 8) = some (Na_c ad 0 (-1)) → hp_off [ad 8] h H → ev_Run G l (d + 5) bc bs mNa_read 10 [some (.ref (ad 8)), some (.ref (ad r)), none] [] H n P := by
    intro H q0 o0
    have R0 := hR.k8 hA hr o0
    refine ev_aload_n dNa_read_10 rfl rfl ?_
    refine cz_Ru_clear dNa_read_11 lNa_34 R0.obj (Nat.le_of_ble_eq_true rfl) (Ru_clear_ok hA hr.2 R0 (fun h1 R1 o1 => ?_))
    have q1 := (o1 _ n8).trans q0
    have B1 := hB.kR hA hr ((off8 o0).tr (offR o1))
    refine ev_aload_n dNa_read_14 rfl rfl ?_
    refine cz_Na_skipBlanks dNa_read_15 lNa_37 q1 (Nat.le_of_ble_eq_true rfl) (Na_skip_ok hA B1 q1 (by omega) (fun h2 q2 o2 => ?_))
    refine ev_iconst (v := nI 0) dNa_read_18 (by decide) ?_
    refine ev_istore_n dNa_read_19 rfl (by decide) ?_
    exact loop 41 0 (skp ys 0) [] h2 (by omega) rfl (skp_le (by omega)) rfl q2 (R1.k8 hA hr o2) (((off8 o0).tr (offR o1)).tr (off8 o2))
  refine ev_aload_n dNa_read_0 rfl rfl ?_
  refine ev_iconst (v := nI 0) dNa_read_1 (by decide) ?_
  refine ev_put dNa_read_2 fNa_27 tNa_1 h8 rfl rfl (Nat.le_of_ble_eq_true rfl) ?_
  refine ev_aload_n dNa_read_5 rfl rfl ?_
  refine ev_iconst (v := -1) dNa_read_6 (by decide) ?_
  refine ev_put dNa_read_7 fNa_31 tNa_2 (hp_set_self _ _ _) rfl rfl (Nat.le_of_ble_eq_true rfl) ?_
  exact go _ ((hp_set_self _ _ _).trans rfl) ((hp_off.rf.set (by simp)).set (by simp))
theorem XT_swap {h' : xH} {lr' lq' : Nat} (hX : XT h n0 ad tg lr lq ts) (h0 : h' (ad 0) = some (BL_c ad ts.length lr' lq')) (ho : hp_off [ad 0] h h') (hl : lr' < 26 ∧ lq' < 26) : XT h' n0 ad tg lr' lq' ts := by
  obtain ⟨hA, -, ⟨f, h1, hf1⟩, hl0, hT, -, hb⟩ := hX
  have out : ∀ k, ad_lv ts.length k → k ≠ 0 → ad k ∉ [ad 0] := by
    intro k hk hk2
    simpa using ad_ne hA hk (Or.inl (by omega)) hk2
  refine ⟨hA, h0, ⟨f, (ho _ (out 1 (Or.inl (by omega)) (by omega))).trans h1, hf1⟩, hl0, fun i t hi => ?_, hl, hb⟩
  have hi' : i < ts.length := (List.getElem?_eq_some_iff.mp hi).1
  obtain ⟨u, o⟩ := hT i t hi
  exact ⟨u.keep ho (out _ (ad_th (j := 0) hi' (by omega)) (by omega)) (out _ (ad_th (j := 1) hi' (by omega)) (by omega)) (out _ (ad_th (j := 2) hi' (by omega)) (by omega)) (out _ (ad_th (j := 3) hi' (by omega)) (by omega)), o⟩
set_option maxRecDepth 20000 in
theorem BL_unit_ok {x : Int32} (hX : XT h n0 ad tg lr lq ts) (hN : XN h ad lr lq ys us) (hk : ∀ h', By h' (ad 6) (ad 7) 400 (unit_s ys x).2 → hp_off [ad 6, ad 7] h h' → P (some (.int (unit_s ys x).1)) h' n) : ev_Run G l (d + 2) bc bs mBL_unit 0 [some (.ref (ad 0)), some (.int x)] [] h n P := by
  have h0 := hX.2.1
  obtain ⟨hB, ⟨a, v, h8⟩, -⟩ := hN
  refine ev_aload_n dBL_unit_0 rfl rfl ?_
  refine ev_get dBL_unit_1 fBL_32 h0 rfl ?_
  refine ev_iload_n dBL_unit_4 rfl rfl ?_
  refine ev_sipush (v := nI 255) dBL_unit_5 (by decide) ?_
  refine ev_iand dBL_unit_8 ?_
  refine cz_Na_put dBL_unit_9 lBL_176 h8 (Nat.le_of_ble_eq_true rfl) (Na_put_ok hB h8 (fun z1 h2 B2 o2 => ?_) (fun z1 => ?_))
  · rw [unit_s, if_pos z1] at hk
    refine ev_iret dBL_unit_12 rfl rfl ?_
    exact hk _ B2 o2
  · rw [unit_s, if_neg (by omega)] at hk
    refine ev_iret dBL_unit_12 rfl rfl ?_
    exact hk _ hB hp_off.rf
set_option maxRecDepth 20000 in
set_option maxHeartbeats 1000000 in
theorem BL_name_ok {b c D : Int32} (hX : XT h n0 ad tg lr lq ts) (hN : XN h ad lr lq ys us) (hk : P (some (.int (name_s ts us b c D))) h n) : ev_Run G l (d + 2) bc bs mBL_name 0 [some (.ref (ad 0)), some (.int b), some (.int c), some (.int D), none, none, none, none] [] h n P := by
  have h0 := hX.2.1
  have hT := hX.2.2.2.2.1
  have hl := hX.2.2.2.1
  have hR := hN.2.2.1
  have loop : ∀ j t r u, fnd ts b = some (j, t) → ¬ t_ls t = [] → frc us c D us.length = some r → us[r]? = some u → ∀ e k x, k + e = (t_ls t).length → (∀ k' q, k' < k → (t_ls t)[k']? = some q → nm_ok ts u q.1) → ev_Run G l (d + 2) bc bs mBL_name 47 [some (.ref (ad 0)), some (.int b), some (.int c), some (.int D), some (.ref (ad (100 + 4 * j))), some (.int (nI r)), some (.int (nI k)), x] [] h n P := by
    intro j t r u q2 hne hf hu e
    obtain ⟨hx1, hx2, hx3⟩ := fnd_some q2
    have hjl : j < ts.length := (List.getElem?_eq_some_iff.mp hx2).1
    obtain ⟨⟨u1, u2⟩, o⟩ := hT j t hx2
    have hl8 := u2.len
    rw [name_s, q2] at hk
    simp only [] at hk
    rw [if_neg hne, hf] at hk
    simp only [] at hk
    rw [hu] at hk
    simp only [] at hk
    have no : ∀ q ∈ t_ls t, ¬ nm_ok ts u q.1 → P (some (.int (nI 0))) h n := by
      intro q hq hz
      rw [if_neg (fun z => hz (z q hq))] at hk
      exact hk
    induction e with
    | zero =>
      intro k x hke hd
      refine ev_iload dBL_name_47 rfl ?_
      refine ev_aload dBL_name_49 rfl ?_
      refine ev_get dBL_name_51 fBL_82 u1 rfl ?_
      refine cz_La_size dBL_name_54 lBL_160 u2.obj (Nat.le_of_ble_eq_true rfl) (La_size_ok u2 ?_)
      refine ev_icmp_ge (tgt := 106) dBL_name_57 (by decide) (fun c57 => ?_) (fun c57 => absurd (nI_le (by omega) (by omega)) c57)
      refine ev_iconst (v := nI 1) dBL_name_106 (by decide) ?_
      refine ev_iret dBL_name_107 rfl rfl ?_
      rw [if_pos (fun q hq => ?_)] at hk
      exact hk
      obtain ⟨k', hk'⟩ := List.getElem?_of_mem hq
      exact hd k' q (by have := (List.getElem?_eq_some_iff.mp hk').1; omega) hk'
    | succ e ih =>
      intro k x hke hd
      obtain ⟨p, hp⟩ := sl_get (ls := t_ls t) (j := k) (by omega)
      have hpm := List.mem_of_getElem? hp
      have hhb := o.2.2.2.2.2.2.2.1 p hpm
      have hi := fun (hz : nm_ok ts u p.1) x => ih (k + 1) x (by omega) (fun k' q hk' hq => by
        rcases Nat.lt_or_ge k' k with z | z
        · exact hd k' q z hq
        · have : k' = k := by omega
          subst this
          rw [hp] at hq
          cases hq
          exact hz)
      refine ev_iload dBL_name_47 rfl ?_
      refine ev_aload dBL_name_49 rfl ?_
      refine ev_get dBL_name_51 fBL_82 u1 rfl ?_
      refine cz_La_size dBL_name_54 lBL_160 u2.obj (Nat.le_of_ble_eq_true rfl) (La_size_ok u2 ?_)
      refine ev_icmp_ge (tgt := 106) dBL_name_57 (by decide) (fun c57 => False.elim (absurd c57 (nI_ge (by omega) (by omega)))) (fun c57 => ?_)
      refine ev_aload_n dBL_name_60 rfl rfl ?_
      refine ev_aload dBL_name_61 rfl ?_
      refine ev_get dBL_name_63 fBL_82 u1 rfl ?_
      refine ev_iload dBL_name_66 rfl ?_
      refine cz_La_haulAt dBL_name_68 lBL_145 u2.obj (Nat.le_of_ble_eq_true rfl) (La_haulAt_in u2 hp rfl ?_)
      refine cz_BL_findHaul dBL_name_71 lBL_131 h0 (Nat.le_of_ble_eq_true rfl) (BL_findHaul_ok hX (fun i t' y2 yk => ?_) (fun y2 => ?_))
      · obtain ⟨y3, y4, y5⟩ := fnd_some y2
        have y6 : i = p.1 := (nI_eq (by omega) (by omega)).mp y3.symm
        subst y6
        obtain ⟨⟨v1, v2⟩, o2⟩ := hT _ t' y4
        refine ev_astore dBL_name_74 (by decide) ?_
        refine ev_aload dBL_name_76 rfl ?_
        refine ev_ifnull dBL_name_78 ?_
        refine ev_aload_n dBL_name_81 rfl rfl ?_
        refine ev_get dBL_name_82 fBL_39 h0 rfl ?_
        refine ev_iload dBL_name_85 rfl ?_
        refine ev_aload dBL_name_87 rfl ?_
        refine ev_get dBL_name_89 fBL_190 v1 rfl ?_
        refine cz_Ru_allows dBL_name_92 lBL_193 hR.obj (Nat.le_of_ble_eq_true rfl) (Ru_allows_ok hR hu (fun z1 z2 => ?_) (fun z1 => ?_))
        · refine ev_if_ne (tgt := 100) dBL_name_95 (by decide) (fun _ => ?_) (fun q9 => absurd q9 (by decide))
          refine ev_iinc dBL_name_100 rfl (ev_inc1 _) (by decide) ?_
          refine ev_goto (tgt := 47) dBL_name_103 (by decide) ?_
          exact hi (nm_iff.mpr ⟨t', y4, yk, z1, z2⟩) _
        · refine ev_if_ne (tgt := 100) dBL_name_95 (by decide) (fun q9 => absurd (by decide) q9) (fun _ => ?_)
          refine ev_iconst (v := nI 0) dBL_name_98 (by decide) ?_
          refine ev_iret dBL_name_99 rfl rfl ?_
          exact no p hpm (fun z => by obtain ⟨t'', z2, z3, z4⟩ := nm_iff.mp z; rw [y4] at z2; cases z2; exact z1 z4)
      · refine ev_astoreN dBL_name_74 (by decide) ?_
        refine ev_aloadN dBL_name_76 rfl ?_
        refine ev_ifnullN (tgt := 98) dBL_name_78 (by decide) ?_
        refine ev_iconst (v := nI 0) dBL_name_98 (by decide) ?_
        refine ev_iret dBL_name_99 rfl rfl ?_
        exact no p hpm (fun z => by obtain ⟨t', z1, z2, z3⟩ := nm_iff.mp z; exact y2 p.1 t' (fnd_in z1 (by omega)) z2)
  have rest : ∀ j t, fnd ts b = some (j, t) → ¬ t_ls t = [] → ev_Run G l (d + 2) bc bs mBL_name 34 [some (.ref (ad 0)), some (.int b), some (.int c), some (.int D), some (.ref (ad (100 + 4 * j))), none, none, none] [.int (fv (frc us c D us.length))] h n P := by
    intro j t q2 hne
    cases hf : frc us c D us.length with
    | none =>
      rw [name_s, q2] at hk
      simp only [] at hk
      rw [if_neg hne, hf] at hk
      show ev_Run G l (d + 2) bc bs mBL_name 34 [some (.ref (ad 0)), some (.int b), some (.int c), some (.int D), some (.ref (ad (100 + 4 * j))), none, none, none] [.int (-1)] h n P
      refine ev_istore dBL_name_34 (by decide) ?_
      refine ev_iload dBL_name_36 rfl ?_
      refine ev_iconst (v := -1) dBL_name_38 (by decide) ?_
      refine ev_icmp_ne (tgt := 44) dBL_name_39 (by decide) (fun c39 => False.elim (absurd rfl c39)) (fun c39 => ?_)
      refine ev_iconst (v := nI 0) dBL_name_42 (by decide) ?_
      refine ev_iret dBL_name_43 rfl rfl ?_
      exact hk
    | some r =>
      have hr := (frc_lt _ _ hf).2
      have hlu := hR.len
      show ev_Run G l (d + 2) bc bs mBL_name 34 [some (.ref (ad 0)), some (.int b), some (.int c), some (.int D), some (.ref (ad (100 + 4 * j))), none, none, none] [.int (nI r)] h n P
      refine ev_istore dBL_name_34 (by decide) ?_
      refine ev_iload dBL_name_36 rfl ?_
      refine ev_iconst (v := -1) dBL_name_38 (by decide) ?_
      refine ev_icmp_ne (tgt := 44) dBL_name_39 (by decide) (fun c39 => ?_) (fun c39 => ?_)
      · skip
        refine ev_iconst (v := nI 0) dBL_name_44 (by decide) ?_
        refine ev_istore dBL_name_45 (by decide) ?_
        exact loop j t r _ q2 hne hf (List.getElem?_eq_getElem hr) (t_ls t).length 0 none (by omega) (fun k' q hk' => absurd hk' (by omega))
      · exact absurd c39 (nI_ne1 (by omega))
        
  refine ev_aload_n dBL_name_0 rfl rfl ?_
  refine ev_iload_n dBL_name_1 rfl rfl ?_
  refine cz_BL_find dBL_name_2 lBL_96 h0 (Nat.le_of_ble_eq_true rfl) (BL_find_ok hX (fun j t q2 => ?_) (fun q2 => ?_))
  · obtain ⟨hx1, hx2, hx3⟩ := fnd_some q2
    have hjl : j < ts.length := (List.getElem?_eq_some_iff.mp hx2).1
    obtain ⟨⟨u1, u2⟩, o⟩ := hT j t hx2
    have hl8 := u2.len
    refine ev_astore dBL_name_5 (by decide) ?_
    refine ev_aload dBL_name_7 rfl ?_
    refine ev_ifnull dBL_name_9 ?_
    refine ev_aload dBL_name_12 rfl ?_
    refine ev_get dBL_name_14 fBL_82 u1 rfl ?_
    refine cz_La_size dBL_name_17 lBL_160 u2.obj (Nat.le_of_ble_eq_true rfl) (La_size_ok u2 ?_)
    refine ev_if_ne (tgt := 25) dBL_name_20 (by decide) (fun c20 => ?_) (fun c20 => ?_)
    · have hne : ¬ t_ls t = [] := fun z => c20 (by rw [z]; rfl)
      refine ev_aload_n dBL_name_25 rfl rfl ?_
      refine ev_get dBL_name_26 fBL_39 h0 rfl ?_
      refine ev_iload_n dBL_name_29 rfl rfl ?_
      refine ev_iload_n dBL_name_30 rfl rfl ?_
      refine cz_Ru_inForce dBL_name_31 lBL_186 hR.obj (Nat.le_of_ble_eq_true rfl) (Ru_inForce_ok hR ?_)
      exact rest j t q2 hne
    · have hem : t_ls t = [] := List.eq_nil_of_length_eq_zero ((nI_eq (by omega) (by decide)).mp c20)
      refine ev_iconst (v := nI 0) dBL_name_23 (by decide) ?_
      refine ev_iret dBL_name_24 rfl rfl ?_
      rw [name_s, q2] at hk
      simp only [] at hk
      rw [if_pos hem] at hk
      exact hk
  · refine ev_astoreN dBL_name_5 (by decide) ?_
    refine ev_aloadN dBL_name_7 rfl ?_
    refine ev_ifnullN (tgt := 23) dBL_name_9 (by decide) ?_
    refine ev_iconst (v := nI 0) dBL_name_23 (by decide) ?_
    refine ev_iret dBL_name_24 rfl rfl ?_
    rw [name_s, q2] at hk
    exact hk
set_option maxRecDepth 20000 in
set_option maxHeartbeats 1000000 in
theorem BL_names_ok (hX : XT h n0 ad tg lr lq ts) (hN : XN h ad lr lq ys us) (hk : ∀ h' lr' lq', XT h' n0 ad tg lr' lq' ts → XN h' ad lr' lq' [] (names_s ys us).2 → hp_off (nm_S ad) h h' → P (some (.int (names_s ys us).1)) h' n) : ev_Run G l (d + 6) bc bs mBL_names 0 [some (.ref (ad 0)), none, none] [] h n P := by
  have h0 := hX.2.1
  have hA := hX.1
  obtain ⟨hB, ⟨a, v, h8⟩, hR, ⟨us2, hQ⟩, hlq⟩ := hN
  have ne : ∀ j k, j < 26 → k < 26 → j ≠ k → ad j ≠ ad k := fun j k hj hk => ad_ne hA (Or.inl hj) (Or.inl hk)
  have hq : 8 < lq ∧ lq + 4 < 26 := by omega
  have hr : 8 < lr ∧ lr + 4 < 26 := by omega
  have S1 : ∀ q ∈ na_S ad lq, ∃ k, 2 ≤ k ∧ k < 26 ∧ q = ad k := by
    intro q hq; simp only [List.mem_cons, List.not_mem_nil, or_false] at hq
    rcases hq with e | e | e | e | e | e <;> exact ⟨_, by omega, by omega, e⟩
  have S2 : ∀ q ∈ [ad 6, ad 7], ∃ k, 2 ≤ k ∧ k < 26 ∧ q = ad k := by
    intro q hq; simp only [List.mem_cons, List.not_mem_nil, or_false] at hq
    rcases hq with e | e <;> exact ⟨_, by omega, by omega, e⟩
  have M1 : ∀ {h h' : xH}, hp_off (na_S ad lq) h h' → hp_off (nm_S ad) h h' := fun ho => ho.mono (by
    intro q hq; simp only [List.mem_cons, List.not_mem_nil, or_false] at hq
    rcases hlq with ⟨-, rfl⟩ | ⟨-, rfl⟩ <;> rcases hq with e | e | e | e | e | e <;> rw [e] <;> simp)
  have M2 : ∀ {h h' : xH}, hp_off [ad 6, ad 7] h h' → hp_off (nm_S ad) h h' := fun ho => ho.mono (by
    intro q hq; simp only [List.mem_cons, List.not_mem_nil, or_false] at hq
    rcases hq with e | e <;> rw [e] <;> simp)
  have M3 : ∀ {h h' : xH}, hp_off [ad 0] h h' → hp_off (nm_S ad) h h' := fun ho => ho.mono (by
    intro q hq; simp only [List.mem_cons, List.not_mem_nil, or_false] at hq
    rw [hq]; simp)
  have K1 : ∀ {h'}, hp_off (na_S ad lq) h h' → Ru h' ad lr us := fun ho => hR.keep (fun k k1 k2 => ho _ (by
    simp only [List.mem_cons, List.not_mem_nil, or_false]
    rintro (e | e | e | e | e | e) <;> exact ne _ _ (by omega) (by omega) (by omega) e))
  have K2 : ∀ {h h' r us}, 8 < r ∧ r + 4 < 26 → hp_off [ad 6, ad 7] h h' → Ru h ad r us → Ru h' ad r us := fun hr ho hR => hR.keep (fun k k1 k2 => ho _ (by
    simp only [List.mem_cons, List.not_mem_nil, or_false]
    rintro (e | e) <;> exact ne _ _ (by omega) (by omega) (by omega) e))
  have K3 : ∀ {h h' r us}, 8 < r ∧ r + 4 < 26 → hp_off [ad 0] h h' → Ru h ad r us → Ru h' ad r us := fun hr ho hR => hR.keep (fun k k1 k2 => ho _ (by
    simp only [List.mem_cons, List.not_mem_nil, or_false]
    intro e; exact ne _ _ (by omega) (by omega) (by omega) e))
  have n867 : ad 8 ∉ [ad 6, ad 7] := by
    simp only [List.mem_cons, List.not_mem_nil, or_false]
    rintro (e | e) <;> exact ne _ _ (by omega) (by omega) (by omega) e
  have n0' : ∀ k, k < 26 → k ≠ 0 → ad k ∉ [ad 0] := by
    intro k k1 k2
    simp only [List.mem_cons, List.not_mem_nil, or_false]
    exact ne _ _ k1 (by omega) k2
  have fin : ∀ h2 H us1 x y, XT h2 n0 ad tg lr lq ts → By h2 (ad 6) (ad 7) 400 [] → (∃ a v, h2 (ad 8) = some (Na_c ad a v)) → Ru h2 ad lr us → Ru h2 ad lq us1 → hp_off (nm_S ad) h h2 → nms ys = .inr us1 → H (ad 0) = some (BL_c ad ts.length lq lr) → hp_off [ad 0] h2 H → ev_Run G l (d + 6) bc bs mBL_names 46 [some (.ref (ad 0)), x, y] [] H n P := by
    rintro h2 H us1 x y X2 B2 ⟨a2, v2, q2⟩ L2 R2 O hn g0 og
    have XH := XT_swap X2 g0 og (by omega)
    have RH := K3 hq og R2
    rw [names_s, hn] at hk
    refine ev_aload_n dBL_names_46 rfl rfl ?_
    refine ev_get dBL_names_47 fBL_39 g0 rfl ?_
    refine cz_Ru_size dBL_names_50 lBL_185 RH.obj (Nat.le_of_ble_eq_true rfl) (Ru_size_ok RH ?_)
    refine ev_iret dBL_names_53 rfl rfl ?_
    exact hk H lq lr XH ⟨B2.keep og (n0' 6 (by omega) (by omega)) (n0' 7 (by omega) (by omega)), ⟨a2, v2, (og _ (n0' 8 (by omega) (by omega))).trans q2⟩, RH, ⟨_, K3 hr og L2⟩, by omega⟩ (O.tr (M3 og))
  refine ev_aload_n dBL_names_0 rfl rfl ?_
  refine ev_get dBL_names_1 fBL_32 h0 rfl ?_
  refine ev_aload_n dBL_names_4 rfl rfl ?_
  refine ev_get dBL_names_5 fBL_43 h0 rfl ?_
  refine cz_Na_read dBL_names_8 lBL_180 h8 (Nat.le_of_ble_eq_true rfl) (Na_read_ok hA hq hB hQ h8 (fun h1 a1 v1 us1 q1 o1 R1 m1 => ?_))
  have B1 := hB.kR hA hq o1
  have X1 := hX.off o1 S1
  have L1 := K1 o1
  refine ev_istore_n dBL_names_11 rfl (by decide) ?_
  refine ev_aload_n dBL_names_12 rfl rfl ?_
  refine ev_get dBL_names_13 fBL_32 X1.2.1 rfl ?_
  refine cz_Na_clear dBL_names_16 lBL_184 q1 (Nat.le_of_ble_eq_true rfl) (Na_clear_ok B1 q1 (fun h2 B2 o2 => ?_))
  have X2 := X1.off o2 S2
  have L2 := K2 hr o2 L1
  have R2 := K2 hq o2 R1
  have q2 := (o2 _ n867).trans q1
  have hx2 := X2.2.1
  refine ev_iload_n dBL_names_19 rfl rfl ?_
  refine ev_iconst (v := -1) dBL_names_20 (by decide) ?_
  refine ev_icmp_eq (tgt := 28) dBL_names_21 (by decide) (fun c21 => ?_) (fun c21 => ?_)
  · refine ev_aload_n dBL_names_28 rfl rfl ?_
    refine ev_get dBL_names_29 fBL_39 hx2 rfl ?_
    refine ev_astore_n dBL_names_32 rfl (by decide) ?_
    refine ev_aload_n dBL_names_33 rfl rfl ?_
    refine ev_aload_n dBL_names_34 rfl rfl ?_
    refine ev_get dBL_names_35 fBL_43 hx2 rfl ?_
    refine ev_put dBL_names_38 fBL_39 tBL_5 hx2 rfl rfl (Nat.le_of_ble_eq_true rfl) ?_
    refine ev_aload_n dBL_names_41 rfl rfl ?_
    refine ev_aload_n dBL_names_42 rfl rfl ?_
    refine ev_put dBL_names_43 fBL_43 tBL_6 (hp_set_self _ _ _) rfl rfl (Nat.le_of_ble_eq_true rfl) ?_
    cases hn : nms ys with | inl e => (rw [hn] at m1; exact absurd (m1.1.symm.trans c21) (nI_ne1 (by have := m1.2; omega))) | inr u => (rw [hn] at m1; exact fin h2 _ us1 _ _ X2 B2 ⟨_, _, q2⟩ L2 R2 ((M1 o1).tr (M2 o2)) (by rw [hn, m1.2]) ((hp_set_self _ _ _).trans rfl) ((hp_off.rf.set (by simp)).set (by simp)))
  · refine ev_iconst (v := -1) dBL_names_24 (by decide) ?_
    refine ev_iload_n dBL_names_25 rfl rfl ?_
    refine ev_isub dBL_names_26 ?_
    refine ev_iret dBL_names_27 rfl rfl ?_
    cases hn : nms ys with | inl e => (rw [hn] at m1; rw [names_s, hn] at hk; rw [m1.1]; exact hk h2 lr lq X2 ⟨B2, ⟨_, _, q2⟩, L2, ⟨_, R2⟩, hlq⟩ ((M1 o1).tr (M2 o2))) | inr u => (rw [hn] at m1; exact absurd m1.1 c21)
end NM
