/-- nothing below n has changed -/
def hp_lo (n : Nat) (h h' : xH) : Prop := ∀ q, q < n → h' q = h q
theorem hp_off.lo {S : List Nat} {h h' : xH} {n : Nat} (ho : hp_off S h h') (hs : ∀ q ∈ S, n ≤ q) : hp_lo n h h' := fun q hq => ho q (fun z => absurd (hs q z) (by omega))
theorem hp_lo.tr {n : Nat} {h h' h'' : xH} (a : hp_lo n h h') (b : hp_lo n h' h'') : hp_lo n h h'' := fun q hq => (b q hq).trans (a q hq)
theorem hp_lo.set {n : Nat} {h h' : xH} {a : Nat} {e : xE} (hh : hp_lo n h h') (ha : n ≤ a) : hp_lo n h (hp_set h' a e) := fun q hq => (hp_set_ne h' e (by omega : q ≠ a)).trans (hh q hq)
theorem hp_lo.rf {n : Nat} {h : xH} : hp_lo n h h := fun _ _ => rfl
theorem La.lo {h h' : xH} {n la ia ga : Nat} {ls : sL} (hL : La h la ia ga ls) (ho : hp_lo n h h') (h1 : la < n) (h2 : ia < n) (h3 : ga < n) : La h' la ia ga ls := by
  obtain ⟨f, g, q1, q2, q3, q4, q5⟩ := hL
  exact ⟨f, g, (ho la h1).trans q1, (ho ia h2).trans q2, (ho ga h3).trans q3, q4, q5⟩
theorem ad_th {T i j : Nat} (hi : i < T) (hj : j < 4) : ad_lv T (100 + j + 4 * i) := Or.inr (Or.inl ⟨by omega, by omega⟩)
theorem XT.lo {h h' : xH} {n : Nat} {ad tg : Nat → Nat} {lr lq : Nat} {ts : List sT} (hX : XT h n ad tg lr lq ts) (ho : hp_lo n h h') : XT h' n ad tg lr lq ts := by
  obtain ⟨hA, h0, ⟨f, h1, hf1⟩, hl, hT, hlr, hn⟩ := hX
  refine ⟨hA, (ho _ (hn 0 (Or.inl (by omega)))).trans h0, ⟨f, (ho _ (hn 1 (Or.inl (by omega)))).trans h1, hf1⟩, hl, fun i t hi => ?_, hlr, hn⟩
  have hi' : i < ts.length := (List.getElem?_eq_some_iff.mp hi).1
  obtain ⟨⟨u1, u2⟩, o⟩ := hT i t hi
  exact ⟨⟨(ho _ (hn _ (ad_th (j := 0) hi' (by omega)))).trans u1, u2.lo ho (hn _ (ad_th (j := 1) hi' (by omega))) (hn _ (ad_th (j := 2) hi' (by omega))) (hn _ (ad_th (j := 3) hi' (by omega)))⟩, o⟩
theorem XT.wide {h : xH} {n n' : Nat} {ad tg : Nat → Nat} {lr lq : Nat} {ts : List sT} (hX : XT h n ad tg lr lq ts) (hn : n ≤ n') : XT h n' ad tg lr lq ts := ⟨hX.1, hX.2.1, hX.2.2.1, hX.2.2.2.1, hX.2.2.2.2.1, hX.2.2.2.2.2.1, fun k hk => Nat.lt_of_lt_of_le (hX.2.2.2.2.2.2 k hk) hn⟩
def ad_add (ad : Nat → Nat) (T n : Nat) : Nat → Nat := fun k => if 100 + 4 * T ≤ k ∧ k < 104 + 4 * T then n + (k - (100 + 4 * T)) else ad k
def tg_add (tg : Nat → Nat) (T n : Nat) : Nat → Nat := fun q => if n ≤ q ∧ q < n + 4 then 100 + 4 * T + (q - n) else tg q
theorem ad_add_old {ad : Nat → Nat} {T n k : Nat} (h : k < 100 + 4 * T ∨ 104 + 4 * T ≤ k) : ad_add ad T n k = ad k := if_neg (by omega)
theorem ad_add_new {ad : Nat → Nat} {T n j : Nat} (h : j < 4) : ad_add ad T n (100 + j + 4 * T) = n + j := by
  unfold ad_add
  rw [if_pos (by omega)]; omega
theorem ad_add_lv {ad : Nat → Nat} {T n k : Nat} (hT : T < 70) (h : ad_lv T k) : ad_add ad T n k = ad k := by
  rcases h with h | h | h
  · exact ad_add_old (by omega)
  · exact ad_add_old (by omega)
  · exact ad_add_old (by omega)
abbrev kp_h (h : xH) (ad : Nat → Nat) (lr lq T a : Nat) (f : Nat → Option Nat) : xH := hp_set (hp_set h (ad 1) (.inl (3, 70, .inr (.inr (.inr (.inr (va_up f T (some a)))))))) (ad 0) (BL_c ad (T + 1) lr lq)
theorem XT_add {h : xH} {n n' : Nat} {ad tg : Nat → Nat} {lr lq : Nat} {ts : List sT} {t : sT} {f : Nat → Option Nat} (hX : XT h n ad tg lr lq ts) (h1 : h (ad 1) = some (.inl (3, 70, .inr (.inr (.inr (.inr f)))))) (hf : ∀ i, i < ts.length → f i = some (ad (100 + 4 * i))) (hl : ts.length < 70) (hT : Th h n (n + 1) (n + 2) (n + 3) t) (ht : t_ok t) (hn : n + 4 ≤ n') : XT (kp_h h ad lr lq ts.length n f) n' (ad_add ad ts.length n) (tg_add tg ts.length n) lr lq (ts ++ [t]) := by
  obtain ⟨hA, h0, -, -, hTs, hlr, hb⟩ := hX
  have l0 : ad_lv ts.length 0 := Or.inl (by omega)
  have l1 : ad_lv ts.length 1 := Or.inl (by omega)
  have b0 := hb 0 l0
  have b1 := hb 1 l1
  have n01 : ad 1 ≠ ad 0 := ad_ne hA l1 l0 (by omega)
  have o0 : ∀ k, k < 26 → ad_add ad ts.length n k = ad k := fun k hk => ad_add_old (by omega)
  have hlen : (ts ++ [t]).length = ts.length + 1 := by simp
  refine ⟨fun k hk => ?_, ?_, ⟨va_up f ts.length (some n), ?_, fun i hi => ?_⟩, by omega, fun i u hi => ?_, hlr, fun k hk => ?_⟩
  · rw [hlen] at hk
    by_cases hq : 100 + 4 * ts.length ≤ k ∧ k < 104 + 4 * ts.length
    · unfold ad_add tg_add
      rw [if_pos hq, if_pos (by omega)]; omega
    · have hk' : ad_lv ts.length k := by
        rcases hk with h | h | h
        · exact Or.inl h
        · exact Or.inr (Or.inl ⟨h.1, by omega⟩)
        · exact Or.inr (Or.inr h)
      rw [ad_add_lv hl hk']
      have := hb k hk'
      unfold tg_add
      rw [if_neg (by omega)]
      exact hA k hk'
  · rw [hlen, o0 0 (by omega)]
    refine (hp_set_self _ _ _).trans ?_
    unfold BL_c
    rw [o0 1 (by omega), o0 2 (by omega), o0 4 (by omega), o0 8 (by omega), o0 lr hlr.1, o0 lq hlr.2, o0 19 (by omega), o0 24 (by omega)]
  · rw [o0 1 (by omega)]
    exact (hp_set_ne _ _ n01).trans (hp_set_self _ _ _)
  · rw [hlen] at hi
    by_cases hq : i = ts.length
    · subst hq
      rw [va_up_self]
      have := ad_add_new (ad := ad) (T := ts.length) (n := n) (j := 0) (by omega)
      simp at this
      rw [this]
    · rw [va_up_ne _ _ hq, hf i (by omega), ad_add_old (by omega)]
  · rcases Nat.lt_or_ge i ts.length with hil | hil
    · rw [List.getElem?_append_left hil] at hi
      obtain ⟨⟨u1, u2⟩, o⟩ := hTs i u hi
      have e : ∀ j, j < 4 → ad_add ad ts.length n (100 + j + 4 * i) = ad (100 + j + 4 * i) := fun j hj => ad_add_old (by omega)
      have e0 := e 0 (by omega)
      have e1 := e 1 (by omega)
      have e2 := e 2 (by omega)
      have e3 := e 3 (by omega)
      simp only [Nat.add_zero, show 100 + 1 = 101 from rfl, show 100 + 2 = 102 from rfl, show 100 + 3 = 103 from rfl] at e0 e1 e2 e3
      rw [e0, e1, e2, e3]
      refine ⟨Th.keep (S := [ad 1, ad 0]) ⟨u1, u2⟩ ((hp_off.rf.set (by simp)).set (by simp)) ?_ ?_ ?_ ?_, o⟩
      · simp; exact ⟨ad_ne hA (ad_th (j := 0) hil (by omega)) l1 (by omega), ad_ne hA (ad_th (j := 0) hil (by omega)) l0 (by omega)⟩
      · simp; exact ⟨ad_ne hA (ad_th (j := 1) hil (by omega)) l1 (by omega), ad_ne hA (ad_th (j := 1) hil (by omega)) l0 (by omega)⟩
      · simp; exact ⟨ad_ne hA (ad_th (j := 2) hil (by omega)) l1 (by omega), ad_ne hA (ad_th (j := 2) hil (by omega)) l0 (by omega)⟩
      · simp; exact ⟨ad_ne hA (ad_th (j := 3) hil (by omega)) l1 (by omega), ad_ne hA (ad_th (j := 3) hil (by omega)) l0 (by omega)⟩
    · have hk1 : i < (ts ++ [t]).length := (List.getElem?_eq_some_iff.mp hi).1
      have hq : i = ts.length := by omega
      subst hq
      simp at hi
      subst hi
      have e := fun j (hj : j < 4) => ad_add_new (ad := ad) (T := ts.length) (n := n) (j := j) hj
      have e0 := e 0 (by omega)
      have e1 := e 1 (by omega)
      have e2 := e 2 (by omega)
      have e3 := e 3 (by omega)
      simp only [Nat.add_zero, show 100 + 1 = 101 from rfl, show 100 + 2 = 102 from rfl, show 100 + 3 = 103 from rfl] at e0 e1 e2 e3
      rw [e0, e1, e2, e3]
      refine ⟨Th.keep (S := [ad 1, ad 0]) hT ((hp_off.rf.set (by simp)).set (by simp)) ?_ ?_ ?_ ?_, ht⟩ <;> simp <;> omega
  · rw [hlen] at hk
    by_cases hq : 100 + 4 * ts.length ≤ k ∧ k < 104 + 4 * ts.length
    · unfold ad_add
      rw [if_pos hq]; omega
    · have hk' : ad_lv ts.length k := by
        rcases hk with h | h | h
        · exact Or.inl h
        · exact Or.inr (Or.inl ⟨h.1, by omega⟩)
        · exact Or.inr (Or.inr h)
      rw [ad_add_lv hl hk']
      have := hb k hk'
      omega
section BL2
variable {G : xG} {l : Launch} {d bc bs : Nat} {h : xH} {n n0 : Nat} {P : Option Value → xH → Nat → Prop} {ad tg : Nat → Nat} {lr lq : Nat} {ts : List sT}
set_option maxRecDepth 20000 in
theorem BL_keep_ok {a la : Nat} {t : sT} {f : Nat → Option Nat} (hX : XT h n0 ad tg lr lq ts) (h1 : h (ad 1) = some (.inl (3, 70, .inr (.inr (.inr (.inr f)))))) (hl : ts.length < 70) (ha : h a = some (Th_c la t)) (hk : P (some (.int (nI ts.length))) (kp_h h ad lr lq ts.length a f) n) : ev_Run G l (d + 1) bc bs mBL_keep 0 [some (.ref (ad 0)), some (.ref a)] [] h n P := by
  have n01 : ad 0 ≠ ad 1 := ad_ne hX.1 (Or.inl (by omega)) (Or.inl (by omega)) (by omega)
  have h0 := hX.2.1
  refine ev_aload_n dBL_keep_0 rfl rfl ?_
  refine cz_BL_isFull dBL_keep_1 lBL_71 h0 (Nat.le_of_ble_eq_true rfl) (BL_isFull_ok hX (fun q1 => ?_) (fun q1 => ?_))
  · exact absurd q1 (by omega)
    
  · refine ev_if_eq (tgt := 9) dBL_keep_4 (by decide) (fun _ => ?_) (fun q9 => absurd (by decide) q9)
    refine ev_aload_n dBL_keep_9 rfl rfl ?_
    refine ev_get dBL_keep_10 fBL_11 h0 rfl ?_
    refine ev_aload_n dBL_keep_13 rfl rfl ?_
    refine ev_get dBL_keep_14 fBL_15 h0 rfl ?_
    refine ev_aload_n dBL_keep_17 rfl rfl ?_
    refine ev_aast (E := "BatchLinks$Thing") dBL_keep_18 h1 rfl ha rfl rfl (by omega) (by decide) ?_
    refine ev_aload_n dBL_keep_19 rfl rfl ?_
    refine ev_dup dBL_keep_20 rfl ?_
    refine ev_get dBL_keep_21 fBL_15 ((hp_set_ne _ _ n01).trans h0) rfl ?_
    refine ev_iconst (v := nI 1) dBL_keep_24 (by decide) ?_
    refine ev_iadd dBL_keep_25 ?_
    refine ev_top (nI_add _ _) ?_
    refine ev_put dBL_keep_26 fBL_15 tBL_1 ((hp_set_ne _ _ n01).trans h0) rfl rfl (Nat.le_of_ble_eq_true rfl) ?_
    refine ev_aload_n dBL_keep_29 rfl rfl ?_
    refine ev_get dBL_keep_30 fBL_15 (hp_set_self _ _ _) rfl ?_
    refine ev_iconst (v := nI 1) dBL_keep_33 (by decide) ?_
    refine ev_isub dBL_keep_34 ?_
    refine ev_top (nI_pred _) ?_
    refine ev_iret dBL_keep_35 rfl rfl ?_
    exact hk
end BL2
