/-! recalls: how many boxes of a customer have something of a haul -/
def bx_p (c j : Nat) (t : sT) : Bool := decide (t_kind t = 3 ∧ t_mark t = c ∧ 0 < sl_of (t_ls t) j)
def bx_n (ts : List sT) (c j : Nat) : Nat := ts.countP (bx_p c j)
theorem bx_take {ts : List sT} {i c j : Nat} {t : sT} (h : ts[i]? = some t) : bx_n (ts.take (i + 1)) c j = bx_n (ts.take i) c j + (if bx_p c j t then 1 else 0) := by
  unfold bx_n
  rw [List.take_add_one, h, List.countP_append]
  by_cases hp : bx_p c j t <;> simp [hp]
theorem bx_le (ts : List sT) (c j : Nat) : bx_n ts c j ≤ ts.length := List.countP_le_length
def back_s (ts : List sT) (x k : Int32) : Int32 := match fnd ts x with
  | none => -1
  | some p => pick_l ((List.range 100).filter (fun k => decide (0 < sl_of (t_ls p.2) k))) k
def recall_s (ts : List sT) (x : Int32) : Int32 := match fnd ts x with
  | none => -1
  | some p => if t_kind p.2 = 1 then nI ((List.range 100).filter (fun c => decide (1 ≤ bx_n ts c p.1))).length else -1
def recalled_s (ts : List sT) (x k : Int32) : Int32 := match fnd ts x with
  | none => -1
  | some p => if t_kind p.2 = 1 then pick_l ((List.range 100).filter (fun c => decide (0 < bx_n ts c p.1))) k else -1
def dbl (ts : List sT) (j : Nat) : Bool := match ts[j]? with
  | none => false
  | some t => decide (t_kind t = 1 ∧ 0 < ((List.range 100).filter (fun c => decide (2 ≤ bx_n ts c j))).length)
def doubled_s (ts : List sT) (k : Int32) : Int32 := pick_l ((List.range 100).filter (dbl ts)) k
/-- the two tallies, whatever they hold -/
def XS (h : xH) (ad : Nat → Nat) : Prop := (h (ad 2) = some (.inr (5, [.ref (ad 3)])) ∧ ∃ f, h (ad 3) = some (.inl (0, 100, .inl f))) ∧ h (ad 4) = some (.inr (5, [.ref (ad 5)])) ∧ ∃ f, h (ad 5) = some (.inl (0, 100, .inl f))
section BL8
variable {G : xG} {l : Launch} {d bc bs : Nat} {h h' : xH} {n n0 : Nat} {P : Option Value → xH → Nat → Prop} {ad tg : Nat → Nat} {lr lq : Nat} {ts ts' : List sT} {S : List Nat}
/-- what isn't the things' own may change -/
theorem XT.off (hX : XT h n0 ad tg lr lq ts) (ho : hp_off S h h') (hS : ∀ q ∈ S, ∃ k, 2 ≤ k ∧ k < 26 ∧ q = ad k) : XT h' n0 ad tg lr lq ts := by
  obtain ⟨hA, h0, ⟨f, h1, hf1⟩, hl, hT, hlr, hb⟩ := hX
  have out : ∀ k, ad_lv ts.length k → (k < 2 ∨ 26 ≤ k) → ad k ∉ S := by
    intro k hk hk2 hq
    obtain ⟨j, j1, j2, j3⟩ := hS _ hq
    exact ad_ne hA hk (Or.inl j2) (by omega) j3
  refine ⟨hA, (ho _ (out 0 (Or.inl (by omega)) (by omega))).trans h0, ⟨f, (ho _ (out 1 (Or.inl (by omega)) (by omega))).trans h1, hf1⟩, hl, fun i t hi => ?_, hlr, hb⟩
  have hi' : i < ts.length := (List.getElem?_eq_some_iff.mp hi).1
  obtain ⟨u, o⟩ := hT i t hi
  exact ⟨u.keep ho (out _ (ad_th (j := 0) hi' (by omega)) (by omega)) (out _ (ad_th (j := 1) hi' (by omega)) (by omega)) (out _ (ad_th (j := 2) hi' (by omega)) (by omega)) (out _ (ad_th (j := 3) hi' (by omega)) (by omega)), o⟩
theorem XS.off3 (hX : XT h n0 ad tg lr lq ts) (hS : XS h ad) {c : Nat → Nat} (ho : hp_off [ad 3] h h') (hT : Ta h' (ad 2) (ad 3) c) : XS h' ad := by
  obtain ⟨f, t1, t2, -⟩ := hT
  obtain ⟨-, s1, g, s2⟩ := hS
  have n1 : ad 4 ∉ [ad 3] := by simp; exact ad_ne hX.1 (Or.inl (by omega)) (Or.inl (by omega)) (by omega)
  have n2 : ad 5 ∉ [ad 3] := by simp; exact ad_ne hX.1 (Or.inl (by omega)) (Or.inl (by omega)) (by omega)
  exact ⟨⟨t1, f, t2⟩, (ho _ n1).trans s1, g, (ho _ n2).trans s2⟩
theorem XS.off5 (hX : XT h n0 ad tg lr lq ts) (hS : XS h ad) {c : Nat → Nat} (ho : hp_off [ad 5] h h') (hT : Ta h' (ad 4) (ad 5) c) : XS h' ad := by
  obtain ⟨f, t1, t2, -⟩ := hT
  obtain ⟨⟨s1, g, s2⟩, -⟩ := hS
  have n1 : ad 2 ∉ [ad 5] := by simp; exact ad_ne hX.1 (Or.inl (by omega)) (Or.inl (by omega)) (by omega)
  have n2 : ad 3 ∉ [ad 5] := by simp; exact ad_ne hX.1 (Or.inl (by omega)) (Or.inl (by omega)) (by omega)
  exact ⟨⟨(ho _ n1).trans s1, g, (ho _ n2).trans s2⟩, t1, f, t2⟩
theorem ad_s {k : Nat} (h2 : 2 ≤ k) (h5 : k < 26) : ∀ q ∈ [ad k], ∃ k, 2 ≤ k ∧ k < 26 ∧ q = ad k := by
  intro q hq; simp at hq; exact ⟨k, h2, h5, hq⟩
theorem Ta.keep {h h' : xH} {S : List Nat} {ta tc : Nat} {c : Nat → Nat} (hT : Ta h ta tc c) (ho : hp_off S h h') (h1 : ta ∉ S) (h2 : tc ∉ S) : Ta h' ta tc c := by
  obtain ⟨f, q1, q2, q3⟩ := hT
  exact ⟨f, (ho _ h1).trans q1, (ho _ h2).trans q2, q3⟩
theorem Ta.eq {h : xH} {ta tc : Nat} {c c' : Nat → Nat} (hT : Ta h ta tc c) (he : ∀ k, k < 100 → c k = c' k) : Ta h ta tc c' := by
  obtain ⟨f, q1, q2, q3⟩ := hT
  exact ⟨f, q1, q2, fun k hk => by rw [q3 k hk, he k hk]⟩
set_option maxRecDepth 20000 in
set_option maxHeartbeats 1000000 in
theorem BL_countBoxes_ok {j : Nat} (hX : XT h n0 ad tg lr lq ts) (hS : XS h ad) (hj : j < 1000) (hk : ∀ h', Ta h' (ad 4) (ad 5) (fun c => bx_n ts c j) → hp_off [ad 5] h h' → P none h' n) : ev_Run G l (d + 1) bc bs mBL_countBoxesWith 0 [some (.ref (ad 0)), some (.int (nI j)), none, none] [] h n P := by
  have hl := hX.2.2.2.1
  have loop : ∀ e i w h', i + e = ts.length → Ta h' (ad 4) (ad 5) (fun c => bx_n (ts.take i) c j) → hp_off [ad 5] h h' → ev_Run G l (d + 1) bc bs mBL_countBoxesWith 9 [some (.ref (ad 0)), some (.int (nI j)), some (.int (nI i)), w] [] h' n P := by
    intro e
    induction e with
    | zero =>
      intro i w h' hi hT ho
      obtain ⟨-, h0, -⟩ := hX.off ho (ad_s (by omega) (by omega))
      rw [List.take_of_length_le (by omega)] at hT
      refine ev_iload_n dBL_countBoxesWith_9 rfl rfl ?_
      refine ev_aload_n dBL_countBoxesWith_10 rfl rfl ?_
      refine ev_get dBL_countBoxesWith_11 fBL_15 h0 rfl ?_
      refine ev_icmp_ge (tgt := 65) dBL_countBoxesWith_14 (by decide) (fun c14 => ?_) (fun c14 => absurd (nI_le (by omega) (by omega)) c14)
      refine ev_vret dBL_countBoxesWith_65 rfl ?_
      exact hk _ hT ho
    | succ e ih =>
      intro i w h' hi hT ho
      have hX' := hX.off ho (ad_s (by omega) (by omega))
      obtain ⟨hA, h0, -, -, hTs, -⟩ := id hX'
      obtain ⟨t, ht⟩ : ∃ t, ts[i]? = some t := ⟨_, List.getElem?_eq_getElem (by omega)⟩
      obtain ⟨⟨u1, u2⟩, o⟩ := hTs i t ht
      have htl := sl_tot_lt o.2.2.2.2.2.2.2.2.1 u2.len
      have hol := sl_of_le (t_ls t) j
      have hf := fnd_in ht (by omega)
      have skipc : (∀ c, bx_p c j t = false) → ∀ w', ev_Run G l (d + 1) bc bs mBL_countBoxesWith 9 [some (.ref (ad 0)), some (.int (nI j)), some (.int (nI (i + 1))), w'] [] h' n P := fun hb w' => ih (i + 1) w' h' (by omega) (hT.eq (fun c _ => by rw [bx_take ht, hb c]; simp)) ho
      refine ev_iload_n dBL_countBoxesWith_9 rfl rfl ?_
      refine ev_aload_n dBL_countBoxesWith_10 rfl rfl ?_
      refine ev_get dBL_countBoxesWith_11 fBL_15 h0 rfl ?_
      refine ev_icmp_ge (tgt := 65) dBL_countBoxesWith_14 (by decide) (fun c14 => False.elim (absurd c14 (nI_ge (by omega) (by omega)))) (fun c14 => ?_)
      refine ev_aload_n dBL_countBoxesWith_17 rfl rfl ?_
      refine ev_iload_n dBL_countBoxesWith_18 rfl rfl ?_
      refine cz_BL_find dBL_countBoxesWith_19 lBL_96 h0 (Nat.le_of_ble_eq_true rfl) (BL_find_ok hX' (fun i2 t2 q2 => ?_) (fun q2 => ?_))
      · rw [hf] at q2
        cases q2
        refine ev_astore_n dBL_countBoxesWith_22 rfl (by decide) ?_
        refine ev_aload_n dBL_countBoxesWith_23 rfl rfl ?_
        refine ev_ifnull dBL_countBoxesWith_24 ?_
        refine ev_aload_n dBL_countBoxesWith_27 rfl rfl ?_
        refine ev_get dBL_countBoxesWith_28 fBL_100 u1 rfl ?_
        refine ev_iconst (v := nI 3) dBL_countBoxesWith_31 (by decide) ?_
        refine ev_icmp_ne (tgt := 59) dBL_countBoxesWith_32 (by decide) (fun c32 => ?_) (fun c32 => ?_)
        · refine ev_iinc dBL_countBoxesWith_59 rfl (ev_inc1 _) (by decide) ?_
          refine ev_goto (tgt := 9) dBL_countBoxesWith_62 (by decide) ?_
          exact skipc (fun c => by simp [bx_p]; exact fun z => absurd (by rw [z]) c32) _
        · refine ev_aload_n dBL_countBoxesWith_35 rfl rfl ?_
          refine ev_get dBL_countBoxesWith_36 fBL_82 u1 rfl ?_
          refine ev_iload_n dBL_countBoxesWith_39 rfl rfl ?_
          refine cz_La_gramsOf dBL_countBoxesWith_40 lBL_152 u2.obj (Nat.le_of_ble_eq_true rfl) (La_gramsOf_ok u2 o.2.2.2.2.2.2.2.1 hj ?_)
          refine ev_lconst (v := lN 0) dBL_countBoxesWith_43 (by decide) ?_
          refine ev_lcmp_le (tgt := 59) dBL_countBoxesWith_44 dBL_countBoxesWith_45 (by decide) (fun c44 => ?_) (fun c44 => ?_)
          · refine ev_iinc dBL_countBoxesWith_59 rfl (ev_inc1 _) (by decide) ?_
            refine ev_goto (tgt := 9) dBL_countBoxesWith_62 (by decide) ?_
            rw [pk_lLE (by omega) (by omega)] at c44
            exact skipc (fun c => by simp [bx_p]; omega) _
          · refine ev_aload_n dBL_countBoxesWith_48 rfl rfl ?_
            refine ev_get dBL_countBoxesWith_49 fBL_26 h0 rfl ?_
            refine ev_aload_n dBL_countBoxesWith_52 rfl rfl ?_
            refine ev_get dBL_countBoxesWith_53 fBL_190 u1 rfl ?_
            refine cz_Ta_count dBL_countBoxesWith_56 lBL_164 hT.obj (Nat.le_of_ble_eq_true rfl) (Ta_count_ok hT (o.2.2.2.2.2.2.2.2.2.2 ((nI_eq (by have := o.1; omega) (by decide)).mp c32)) (fun h2 q3 q4 => ?_))
            refine ev_iinc dBL_countBoxesWith_59 rfl (ev_inc1 _) (by decide) ?_
            refine ev_goto (tgt := 9) dBL_countBoxesWith_62 (by decide) ?_
            exact ih (i + 1) _ h2 (by omega) (q3.eq (fun c _ => by rw [bx_take ht]; have e1 : t_kind t = 3 := ((nI_eq (by have := o.1; omega) (by decide)).mp c32); have e2 : 0 < sl_of (t_ls t) j := (by rw [pk_lLE (by omega) (by omega)] at c44; omega); by_cases hc : c = t_mark t <;> simp [bx_p, e1, e2, hc, eq_comm])) (ho.tr q4)
      · rw [hf] at q2; cases q2
        
  obtain ⟨-, h0, -⟩ := id hX
  refine ev_aload_n dBL_countBoxesWith_0 rfl rfl ?_
  refine ev_get dBL_countBoxesWith_1 fBL_26 h0 rfl ?_
  refine cz_Ta_clear dBL_countBoxesWith_4 lBL_159 hS.2.1 (Nat.le_of_ble_eq_true rfl) (Ta_clear_ok hS.2.1 hS.2.2.choose_spec (fun h2 q1 q2 => ?_))
  refine ev_iconst (v := nI 0) dBL_countBoxesWith_7 (by decide) ?_
  refine ev_istore_n dBL_countBoxesWith_8 rfl (by decide) ?_
  exact loop ts.length 0 none h2 (by omega) (q1.eq (fun k _ => by simp [bx_n])) q2
set_option maxRecDepth 20000 in
theorem BL_recall_ok {x : Int32} (hX : XT h n0 ad tg lr lq ts) (hS : XS h ad) (hk : ∀ h', XS h' ad → hp_off [ad 5] h h' → P (some (.int (recall_s ts x))) h' n) : ev_Run G l (d + 2) bc bs mBL_recall 0 [some (.ref (ad 0)), some (.int x)] [] h n P := by
  obtain ⟨hA, h0, -, hl, hT, hlr, hbd⟩ := id hX
  have na : ad 0 ∉ [ad 5] := by simp; exact ad_ne hA (Or.inl (by omega)) (Or.inl (by omega)) (by omega)
  refine ev_aload_n dBL_recall_0 rfl rfl ?_
  refine ev_iload_n dBL_recall_1 rfl rfl ?_
  refine cz_BL_findHaul dBL_recall_2 lBL_131 h0 (Nat.le_of_ble_eq_true rfl) (BL_findHaul_ok hX (fun i t q2 qk => ?_) (fun q2 => ?_))
  · obtain ⟨hx1, hx2, hx3⟩ := fnd_some q2
    have hi : i < ts.length := (List.getElem?_eq_some_iff.mp hx2).1
    rw [recall_s, q2] at hk
    simp only [] at hk
    rw [if_pos qk] at hk
    refine ev_ifnonnull (tgt := 10) dBL_recall_5 (by decide) ?_
    refine ev_aload_n dBL_recall_10 rfl rfl ?_
    refine ev_iload_n dBL_recall_11 rfl rfl ?_
    rw [hx1]
    refine cz_BL_countBoxesWith dBL_recall_12 lBL_170 h0 (Nat.le_of_ble_eq_true rfl) (BL_countBoxes_ok (j := i) hX hS (by omega) (fun h2 k1 k2 => ?_))
    refine ev_aload_n dBL_recall_15 rfl rfl ?_
    refine ev_get dBL_recall_16 fBL_26 ((k2 _ na).trans h0) rfl ?_
    refine ev_iconst (v := nI 1) dBL_recall_19 (by decide) ?_
    refine cz_Ta_countedAtLeast dBL_recall_20 lBL_173 k1.obj (Nat.le_of_ble_eq_true rfl) (Ta_atLeast_ok k1 (by decide) (fun c _ => by have := bx_le ts c i; omega) ?_)
    refine ev_iret dBL_recall_23 rfl rfl ?_
    exact hk _ (hS.off5 hX k2 k1) k2
  · refine ev_ifnonnullN dBL_recall_5 ?_
    refine ev_iconst (v := -1) dBL_recall_8 (by decide) ?_
    refine ev_iret dBL_recall_9 rfl rfl ?_
    have e : recall_s ts x = -1 := (by unfold recall_s; cases hq : fnd ts x with | none => rfl | some p => exact if_neg (q2 p.1 p.2 hq))
    rw [e] at hk
    exact hk h hS hp_off.rf
set_option maxRecDepth 20000 in
theorem BL_recalled_ok {x k : Int32} (hX : XT h n0 ad tg lr lq ts) (hS : XS h ad) (hk : ∀ h', XS h' ad → hp_off [ad 5] h h' → P (some (.int (recalled_s ts x k))) h' n) : ev_Run G l (d + 2) bc bs mBL_recalled 0 [some (.ref (ad 0)), some (.int x), some (.int k)] [] h n P := by
  obtain ⟨hA, h0, -, hl, hT, hlr, hbd⟩ := id hX
  have na : ad 0 ∉ [ad 5] := by simp; exact ad_ne hA (Or.inl (by omega)) (Or.inl (by omega)) (by omega)
  refine ev_aload_n dBL_recalled_0 rfl rfl ?_
  refine ev_iload_n dBL_recalled_1 rfl rfl ?_
  refine cz_BL_findHaul dBL_recalled_2 lBL_131 h0 (Nat.le_of_ble_eq_true rfl) (BL_findHaul_ok hX (fun i t q2 qk => ?_) (fun q2 => ?_))
  · obtain ⟨hx1, hx2, hx3⟩ := fnd_some q2
    have hi : i < ts.length := (List.getElem?_eq_some_iff.mp hx2).1
    rw [recalled_s, q2] at hk
    simp only [] at hk
    rw [if_pos qk] at hk
    refine ev_ifnonnull (tgt := 10) dBL_recalled_5 (by decide) ?_
    refine ev_aload_n dBL_recalled_10 rfl rfl ?_
    refine ev_iload_n dBL_recalled_11 rfl rfl ?_
    rw [hx1]
    refine cz_BL_countBoxesWith dBL_recalled_12 lBL_170 h0 (Nat.le_of_ble_eq_true rfl) (BL_countBoxes_ok (j := i) hX hS (by omega) (fun h2 k1 k2 => ?_))
    refine ev_aload_n dBL_recalled_15 rfl rfl ?_
    refine ev_get dBL_recalled_16 fBL_26 ((k2 _ na).trans h0) rfl ?_
    refine ev_iload_n dBL_recalled_19 rfl rfl ?_
    refine cz_Ta_pick dBL_recalled_20 lBL_167 k1.obj (Nat.le_of_ble_eq_true rfl) (Ta_pick_ok k1 (fun c _ => by have := bx_le ts c i; omega) ?_)
    refine ev_iret dBL_recalled_23 rfl rfl ?_
    exact hk _ (hS.off5 hX k2 k1) k2
  · refine ev_ifnonnullN dBL_recalled_5 ?_
    refine ev_iconst (v := -1) dBL_recalled_8 (by decide) ?_
    refine ev_iret dBL_recalled_9 rfl rfl ?_
    have e : recalled_s ts x k = -1 := (by unfold recalled_s; cases hq : fnd ts x with | none => rfl | some p => exact if_neg (q2 p.1 p.2 hq))
    rw [e] at hk
    exact hk h hS hp_off.rf
end BL8
