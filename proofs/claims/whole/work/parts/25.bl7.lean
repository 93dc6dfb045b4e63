abbrev shr_c (p : Nat × sT) (w : Int32) : Prop := 1 ≤ sl_tot (t_ls p.2) ∧ (w = nI 0 ∨ w = nI 1)
def share_s (ts : List sT) (x y w : Int32) : Int64 := match fnd ts x with
  | none => -1
  | some p => match fnd ts y with
    | none => -1
    | some q => if t_kind q.2 = 1 ∧ shr_c p w then (if w = nI 0 then lN (sl_of (t_ls p.2) q.1 / Nat.gcd (sl_tot (t_ls p.2)) (sl_of (t_ls p.2) q.1)) else lN (sl_tot (t_ls p.2) / Nat.gcd (sl_tot (t_ls p.2)) (sl_of (t_ls p.2) q.1))) else -1
theorem sl_of_le (ls : sL) (t : Nat) : sl_of ls t ≤ sl_tot ls := by
  induction ls with
  | nil => simp [sl_of, sl_tot]
  | cons p r ih =>
    simp [sl_of, sl_tot] at ih ⊢
    split <;> omega
theorem mod_half {a b : Nat} (h : 0 < a % b) (hb : 0 < b) : b % (a % b) < (b + 1) / 2 := by
  have h1 : a % b < b := Nat.mod_lt _ hb
  rcases Nat.lt_or_ge (b / 2) (a % b) with h2 | h2
  · have : b % (a % b) = b - a % b := by
      rw [Nat.mod_eq_sub_mod (by omega), Nat.mod_eq_of_lt (by omega)]
    omega
  · have := Nat.mod_lt b h
    omega
theorem lN_ne0 {k : Nat} (h1 : 0 < k) (h2 : k < 2 ^ 63) : ¬ lN k = 0 := fun z => by
  have := (pk_lEQ (a := k) (b := 0) h2 (by decide)).mp z
  omega
theorem sl_jl_le (s T : sL) : (sl_jl T s).length ≤ T.length + s.length := by
  induction s generalizing T with
  | nil => exact Nat.le_refl _
  | cons p t ih =>
    have h1 := (sl_jn_len T p.1 p.2).2
    have h2 := ih (sl_jn T p.1 p.2)
    show (sl_jl (sl_jn T p.1 p.2) t).length ≤ _
    simp; omega
section BL7
variable {G : xG} {l : Launch} {d bc bs : Nat} {h h' : xH} {n n0 : Nat} {P : Option Value → xH → Nat → Prop} {ad tg : Nat → Nat} {lr lq : Nat} {ts ts' : List sT} {S : List Nat}
set_option maxRecDepth 20000 in
set_option maxHeartbeats 1000000 in
theorem BL_gcd_ok {a b : Nat} (ha : a < 2 ^ 62) (hb : b < 2 ^ 47) (hk : P (some (.long (lN (Nat.gcd a b)))) h n) : ev_Run G l d bc bs mBL_greatestDivisor 0 [some (.long (lN a)), none, some (.long (lN b)), none, none, none, none, none, none, none, none] [] h n P := by
  have stop : ∀ x s w, x < 2 ^ 62 → s ≤ 100 → x = Nat.gcd a b → ev_Run G l d bc bs mBL_greatestDivisor 9 [some (.long (lN a)), none, some (.long (lN b)), none, some (.long (lN x)), none, some (.long (lN 0)), none, some (.int (nI s)), w, none] [] h n P := by
    intro x s w hx hs he
    refine ev_iload dBL_greatestDivisor_9 rfl ?_
    refine ev_bipush (v := nI 100) dBL_greatestDivisor_11 (by decide) ?_
    refine ev_icmp_ge (tgt := 44) dBL_greatestDivisor_13 (by decide) (fun c13 => ?_) (fun c13 => ?_)
    · refine ev_lload dBL_greatestDivisor_44 rfl ?_
      refine ev_lret dBL_greatestDivisor_46 rfl ?_
      rw [he]
      exact hk
    · refine ev_lload dBL_greatestDivisor_16 rfl ?_
      refine ev_lconst (v := lN 0) dBL_greatestDivisor_18 (by decide) ?_
      refine ev_lcmp_eq (tgt := 44) dBL_greatestDivisor_19 dBL_greatestDivisor_20 (by decide) (fun c19 => ?_) (fun c19 => absurd (rfl) c19)
      refine ev_lload dBL_greatestDivisor_44 rfl ?_
      refine ev_lret dBL_greatestDivisor_46 rfl ?_
      rw [he]
      exact hk
  have step : ∀ x y s w, ¬ y = 0 → y < 2 ^ 62 → x < 2 ^ 62 → s < 100 → (∀ w', ev_Run G l d bc bs mBL_greatestDivisor 9 [some (.long (lN a)), none, some (.long (lN b)), none, some (.long (lN y)), none, some (.long (lN (x % y))), none, some (.int (nI (s + 1))), w', none] [] h n P) → ev_Run G l d bc bs mBL_greatestDivisor 9 [some (.long (lN a)), none, some (.long (lN b)), none, some (.long (lN x)), none, some (.long (lN y)), none, some (.int (nI s)), w, none] [] h n P := by
    intro x y s w hy hy2 hx hs k
    have e0 : ¬ lN y = 0 := fun z => hy ((pk_lEQ (by omega) (by omega)).mp (z : lN y = lN 0))
    refine ev_iload dBL_greatestDivisor_9 rfl ?_
    refine ev_bipush (v := nI 100) dBL_greatestDivisor_11 (by decide) ?_
    refine ev_icmp_ge (tgt := 44) dBL_greatestDivisor_13 (by decide) (fun c13 => False.elim (absurd c13 (nI_ge hs (by decide)))) (fun c13 => ?_)
    refine ev_lload dBL_greatestDivisor_16 rfl ?_
    refine ev_lconst (v := lN 0) dBL_greatestDivisor_18 (by decide) ?_
    refine ev_lcmp_eq (tgt := 44) dBL_greatestDivisor_19 dBL_greatestDivisor_20 (by decide) (fun c19 => False.elim (e0 c19)) (fun c19 => ?_)
    refine ev_lload dBL_greatestDivisor_23 rfl ?_
    refine ev_lload dBL_greatestDivisor_25 rfl ?_
    refine ev_lrem dBL_greatestDivisor_27 (e0) ?_
    refine ev_topl (y := lN (x % y)) (pk_lRem (by omega) (by omega) (by omega)) ?_
    refine ev_lstore dBL_greatestDivisor_28 (by decide) ?_
    refine ev_lload dBL_greatestDivisor_30 rfl ?_
    refine ev_lstore dBL_greatestDivisor_32 (by decide) ?_
    refine ev_lload dBL_greatestDivisor_34 rfl ?_
    refine ev_lstore dBL_greatestDivisor_36 (by decide) ?_
    refine ev_iinc dBL_greatestDivisor_38 rfl (ev_inc1 _) (by decide) ?_
    refine ev_goto (tgt := 9) dBL_greatestDivisor_41 (by decide) ?_
    exact k _
  have hgc : ∀ x y, Nat.gcd y (x % y) = Nat.gcd x y := fun x y => by rw [Nat.gcd_comm x y, Nat.gcd_rec y x, Nat.gcd_comm]
  have loop : ∀ k x y s w, x < 2 ^ 62 → y < 2 ^ k → s + 2 * k ≤ 100 → k ≤ 47 → Nat.gcd x y = Nat.gcd a b → ev_Run G l d bc bs mBL_greatestDivisor 9 [some (.long (lN a)), none, some (.long (lN b)), none, some (.long (lN x)), none, some (.long (lN y)), none, some (.int (nI s)), w, none] [] h n P := by
    intro k
    induction k with
    | zero =>
      intro x y s w hx hy hs hk47 he
      have : y = 0 := by simpa using hy
      subst this
      exact stop x s w hx (by omega) (by rw [← he, Nat.gcd_zero_right])
    | succ k ih =>
      intro x y s w hx hy hs hk47 he
      have hp : 2 ^ (k + 1) ≤ 2 ^ 47 := Nat.pow_le_pow_right (by decide) hk47
      by_cases hy0 : y = 0
      · subst hy0
        exact stop x s w hx (by omega) (by rw [← he, Nat.gcd_zero_right])
      · refine step x y s w hy0 (by omega) hx (by omega) (fun w1 => ?_)
        have hr := Nat.mod_lt x (show 0 < y by omega)
        by_cases hr0 : x % y = 0
        · rw [hr0]
          exact stop y (s + 1) w1 (by omega) (by omega) (by rw [← he, ← hgc x y, hr0, Nat.gcd_zero_right])
        · refine step y (x % y) (s + 1) w1 hr0 (by omega) (by omega) (by omega) (fun w2 => ?_)
          have hm := mod_half (a := x) (b := y) (by omega) (by omega)
          rw [Nat.pow_succ] at hy
          exact ih (x % y) (y % (x % y)) (s + 1 + 1) w2 (by omega) (by omega) (by omega) (by omega) (by rw [hgc, hgc]; exact he)
  refine ev_lload_n dBL_greatestDivisor_0 rfl rfl ?_
  refine ev_lstore dBL_greatestDivisor_1 (by decide) ?_
  refine ev_lload_n dBL_greatestDivisor_3 rfl rfl ?_
  refine ev_lstore dBL_greatestDivisor_4 (by decide) ?_
  refine ev_iconst (v := nI 0) dBL_greatestDivisor_6 (by decide) ?_
  refine ev_istore dBL_greatestDivisor_7 (by decide) ?_
  exact loop 47 a b 0 none ha hb (by omega) (by omega) rfl
set_option maxRecDepth 20000 in
set_option maxHeartbeats 2000000 in
theorem BL_share_ok {x y w : Int32} (hX : XT h n0 ad tg lr lq ts) (hk : P (some (.long (share_s ts x y w))) h n) : ev_Run G l (d + 2) bc bs mBL_share 0 [some (.ref (ad 0)), some (.int x), some (.int y), some (.int w), none, none, none, none, none, none, none] [] h n P := by
  obtain ⟨hA, h0, -, hl, hT, hlr, hbd⟩ := id hX
  refine ev_aload_n dBL_share_0 rfl rfl ?_
  refine ev_iload_n dBL_share_1 rfl rfl ?_
  refine cz_BL_find dBL_share_2 lBL_96 h0 (Nat.le_of_ble_eq_true rfl) (BL_find_ok hX (fun i t q2 => ?_) (fun q2 => ?_))
  · obtain ⟨hx1, hx2, hx3⟩ := fnd_some q2
    obtain ⟨⟨u1, u2⟩, o⟩ := hT i t hx2
    have htl := sl_tot_lt o.2.2.2.2.2.2.2.2.1 u2.len
    rw [share_s, q2] at hk
    simp only [] at hk
    refine ev_astore dBL_share_5 (by decide) ?_
    refine ev_aload dBL_share_7 rfl ?_
    refine ev_ifnull dBL_share_9 ?_
    refine ev_aload_n dBL_share_12 rfl rfl ?_
    refine ev_iload_n dBL_share_13 rfl rfl ?_
    refine cz_BL_findHaul dBL_share_14 lBL_131 h0 (Nat.le_of_ble_eq_true rfl) (BL_findHaul_ok hX (fun j v q14 qk => ?_) (fun q14 => ?_))
    · obtain ⟨hy1, hy2, hy3⟩ := fnd_some q14
      have hj : j < ts.length := (List.getElem?_eq_some_iff.mp hy2).1
      simp only [q14] at hk
      have hol := sl_of_le (t_ls t) j
      have hgp : 1 ≤ sl_tot (t_ls t) → 0 < Nat.gcd (sl_tot (t_ls t)) (sl_of (t_ls t) j) := (fun z => Nat.gcd_pos_of_pos_left _ z)
      have hgl : 1 ≤ sl_tot (t_ls t) → Nat.gcd (sl_tot (t_ls t)) (sl_of (t_ls t) j) ≤ sl_tot (t_ls t) := (fun z => Nat.le_of_dvd z (Nat.gcd_dvd_left _ _))
      refine ev_ifnonnull (tgt := 24) dBL_share_17 (by decide) ?_
      refine ev_aload dBL_share_24 rfl ?_
      refine ev_get dBL_share_26 fBL_82 u1 rfl ?_
      refine cz_La_total dBL_share_29 lBL_134 u2.obj (Nat.le_of_ble_eq_true rfl) (La_total_ok u2 ?_)
      refine ev_lstore dBL_share_32 (by decide) ?_
      refine ev_lload dBL_share_34 rfl ?_
      refine ev_lconst (v := lN 1) dBL_share_36 (by decide) ?_
      refine ev_lcmp_lt (tgt := 50) dBL_share_37 dBL_share_38 (by decide) (fun c37 => ?_) (fun c37 => ?_)
      · refine ev_ldc2 (v := -1) dBL_share_50 qBL_122 ?_
        refine ev_lret dBL_share_53 rfl ?_
        rw [if_neg (fun z => lL_lt_nle c37 ((pk_lLE (by omega) (by omega)).mpr z.2.1))] at hk
        exact hk
      · refine ev_iload_n dBL_share_41 rfl rfl ?_
        refine ev_if_lt (tgt := 50) dBL_share_42 (by decide) (fun c42 => ?_) (fun c42 => ?_)
        · refine ev_ldc2 (v := -1) dBL_share_50 qBL_122 ?_
          refine ev_lret dBL_share_53 rfl ?_
          rw [if_neg (fun z => z.2.2.elim (fun q => by rw [q] at c42; exact absurd c42 (by decide)) (fun q => by rw [q] at c42; exact absurd c42 (by decide)))] at hk
          exact hk
        · refine ev_iload_n dBL_share_45 rfl rfl ?_
          refine ev_iconst (v := nI 1) dBL_share_46 (by decide) ?_
          refine ev_icmp_le (tgt := 54) dBL_share_47 (by decide) (fun c47 => ?_) (fun c47 => ?_)
          · refine ev_aload dBL_share_54 rfl ?_
            refine ev_get dBL_share_56 fBL_82 u1 rfl ?_
            refine ev_iload_n dBL_share_59 rfl rfl ?_
            rw [hy1]
            refine cz_La_gramsOf dBL_share_60 lBL_152 u2.obj (Nat.le_of_ble_eq_true rfl) (La_gramsOf_ok u2 o.2.2.2.2.2.2.2.1 (by omega) ?_)
            refine ev_lstore dBL_share_63 (by decide) ?_
            refine ev_lload dBL_share_65 rfl ?_
            refine ev_lload dBL_share_67 rfl ?_
            refine cz_BL_greatestDivisor dBL_share_69 lBL_155 (Nat.le_of_ble_eq_true rfl) (BL_gcd_ok (by omega) (by omega) ?_)
            refine ev_lstore dBL_share_72 (by decide) ?_
            refine ev_lload dBL_share_74 rfl ?_
            refine ev_lconst (v := lN 1) dBL_share_76 (by decide) ?_
            refine ev_lcmp_ge (tgt := 85) dBL_share_77 dBL_share_78 (by decide) (fun c77 => ?_) (fun c77 => ?_)
            · have h1 : 1 ≤ sl_tot (t_ls t) := (pk_lLE (by omega) (by omega)).mp (lL_nlt c37)
              have hg1 := hgp h1
              have hg2 := hgl h1
              refine ev_iload_n dBL_share_85 rfl rfl ?_
              refine ev_if_ne (tgt := 94) dBL_share_86 (by decide) (fun c86 => ?_) (fun c86 => ?_)
              · refine ev_lload dBL_share_94 rfl ?_
                refine ev_lload dBL_share_96 rfl ?_
                refine ev_ldiv dBL_share_98 (lN_ne0 hg1 (by omega)) ?_
                refine ev_lret dBL_share_99 rfl ?_
                have hw : w = nI 1 := (by obtain ⟨m, hm, rfl⟩ := iI_lim (by decide) c42 c47; rcases (by omega : m = 0 ∨ m = 1) with rfl | rfl; exact absurd rfl c86; rfl)
                rw [if_pos ⟨qk, h1, Or.inr hw⟩, if_neg (show ¬ w = nI 0 from c86)] at hk
                rw [pk_lDiv (by omega) hg1 (by omega)]
                exact hk
              · refine ev_lload dBL_share_89 rfl ?_
                refine ev_goto (tgt := 96) dBL_share_91 (by decide) ?_
                refine ev_lload dBL_share_96 rfl ?_
                refine ev_ldiv dBL_share_98 (lN_ne0 hg1 (by omega)) ?_
                refine ev_lret dBL_share_99 rfl ?_
                rw [if_pos ⟨qk, h1, Or.inl c86⟩, if_pos (show w = nI 0 from c86)] at hk
                rw [pk_lDiv (by omega) hg1 (by omega)]
                exact hk
            · have h1 : 1 ≤ sl_tot (t_ls t) := (pk_lLE (by omega) (by omega)).mp (lL_nlt c37)
              exact absurd ((pk_lLE (by omega) (by have := hgl h1; omega)).mpr (hgp h1)) c77
              
          · refine ev_ldc2 (v := -1) dBL_share_50 qBL_122 ?_
            refine ev_lret dBL_share_53 rfl ?_
            rw [if_neg (fun z => z.2.2.elim (fun q => c47 (by rw [q]; decide)) (fun q => c47 (by rw [q]; decide)))] at hk
            exact hk
    · refine ev_ifnonnullN dBL_share_17 ?_
      refine ev_ldc2 (v := -1) dBL_share_20 qBL_122 ?_
      refine ev_lret dBL_share_23 rfl ?_
      have e : (match fnd ts y with | none => (-1 : Int64) | some q => if t_kind q.2 = 1 ∧ shr_c (i, t) w then (if w = nI 0 then lN (sl_of (t_ls t) q.1 / Nat.gcd (sl_tot (t_ls t)) (sl_of (t_ls t) q.1)) else lN (sl_tot (t_ls t) / Nat.gcd (sl_tot (t_ls t)) (sl_of (t_ls t) q.1))) else -1) = -1 := (by cases hq : fnd ts y with | none => rfl | some q => exact if_neg (fun z => q14 q.1 q.2 hq z.1))
      exact e ▸ hk
  · refine ev_astoreN dBL_share_5 (by decide) ?_
    refine ev_aloadN dBL_share_7 rfl ?_
    refine ev_ifnullN (tgt := 20) dBL_share_9 (by decide) ?_
    refine ev_ldc2 (v := -1) dBL_share_20 qBL_122 ?_
    refine ev_lret dBL_share_23 rfl ?_
    rw [share_s, q2] at hk
    exact hk
set_option maxRecDepth 20000 in
set_option maxHeartbeats 2000000 in
theorem BL_box_ok {f c : Int32} {g : Int64} (hX : XT h n ad tg lr lq ts) (hok : ∀ t ∈ (box_s ts f g c).2, t_ok t) (hk : ∀ h' n' ad' tg', XT h' n' ad' tg' lr lq (box_s ts f g c).2 → FrT ad ad' h h' → n ≤ n' → P (some (.int (box_s ts f g c).1)) h' n') : ev_Run G l (d + 3) (bc + 4) (bs + 171) mBL_box 0 [some (.ref (ad 0)), some (.int f), some (.long g), none, some (.int c), none, none] [] h n P := by
  obtain ⟨hA, h0, ⟨fr, h1, hf1⟩, hl, hT, hlr, hb⟩ := id hX
  have b0 := hb 0 (Or.inl (by omega))
  have b1 := hb 1 (Or.inl (by omega))
  have refuse : box_s ts f g c = (-1, ts) → P (some (.int (-1))) h n := by
    intro hc
    have := hk h n ad tg
    rw [hc] at this
    exact this hX FrT.rf (Nat.le_refl _)
  have fin : ∀ j u g' c' h2, fnd ts f = some (j, u) → g = lN g' → c = nI c' → c' < 2 ^ 31 → g' < 2 ^ 62 → box_c ts (j, u) g c → Th h2 n (n + 1) (n + 2) (n + 3) (3, c', 0, 0, 0, 0, t_warm u, sl_jl [] (sl_tk (t_ls u) g')) → Th h2 (ad (100 + 4 * j)) (ad (101 + 4 * j)) (ad (102 + 4 * j)) (ad (103 + 4 * j)) (t_setL u (sl_rs (t_ls u) g')) → hp_off [n, n + 1, n + 2, n + 3, ad (101 + 4 * j), ad (102 + 4 * j), ad (103 + 4 * j)] h h2 → ev_Run G l (d + 3) bc bs mBL_box 102 [some (.ref (ad 0)), some (.int f), some (.long g), none, some (.int c), some (.ref (ad (100 + 4 * j))), some (.ref n)] [.ref n, .ref (ad 0)] h2 (n + 4) P := by
    rintro j u g' c' h2 q2 rfl rfl hc' hg' hbc k1 k2 ho
    obtain ⟨hx1, hx2, hx3⟩ := fnd_some q2
    have hj : j < ts.length := (List.getElem?_eq_some_iff.mp hx2).1
    rw [box_s, q2] at hk hok
    simp only [] at hk hok
    rw [if_pos hbc, gN_lN (by omega), nI_clamp hc'] at hk hok
    have ok1 := hok _ (List.mem_append_left _ (List.mem_set hj _))
    have ok2 := hok _ (List.mem_append_right _ (List.mem_singleton.mpr rfl))
    have hX2 := XT_set (t' := t_setL u (sl_rs (t_ls u) g')) hX hj ho (fun q hq => by
      simp only [List.mem_cons, List.not_mem_nil, or_false] at hq
      rcases hq with rfl | rfl | rfl | rfl | rfl | rfl | rfl
      · exact Or.inl (by omega)
      · exact Or.inl (by omega)
      · exact Or.inl (by omega)
      · exact Or.inl (by omega)
      · exact Or.inr ⟨1, by omega, rfl⟩
      · exact Or.inr ⟨2, by omega, rfl⟩
      · exact Or.inr ⟨3, by omega, rfl⟩) k2 ok1
    have hlen : (ts.set j (t_setL u (sl_rs (t_ls u) g'))).length = ts.length := by simp
    have h13 : h2 (ad 1) = some (.inl (3, 70, .inr (.inr (.inr (.inr fr))))) := by
      refine (ho _ ?_).trans h1
      simp
      refine ⟨by omega, by omega, by omega, by omega, ?_, ?_, ?_⟩
      · exact ad_ne hA (Or.inl (by omega)) (ad_th (j := 1) hj (by omega)) (by omega)
      · exact ad_ne hA (Or.inl (by omega)) (ad_th (j := 2) hj (by omega)) (by omega)
      · exact ad_ne hA (Or.inl (by omega)) (ad_th (j := 3) hj (by omega)) (by omega)
    have hlt := hbc.2.2.2.2
    refine cz_BL_keep dBL_box_102 lBL_92 hX2.1.2.1 (Nat.le_of_ble_eq_true rfl) (BL_keep_ok hX2.1 h13 (by rw [hlen]; exact hlt) k1.1 ?_)
    refine ev_iret dBL_box_105 rfl rfl ?_
    skip
    have hXa := XT_add hX2.1 h13 (by rw [hlen]; exact hf1) (by rw [hlen]; exact hlt) k1 ok2 (Nat.le_refl _)
    have := hk _ (n + 4) _ _ hXa ?_ (by omega)
    · rw [hlen] at this ⊢; exact this
    · refine ⟨by rw [hlen]; exact ad_add_lv hlt (Or.inl (by omega)), ?_⟩
      intro k hk9
      have lk : ad_lv ts.length k := by rcases hk9 with q | q; exact Or.inl q.2; exact Or.inr (Or.inr q)
      rw [hlen]
      refine ⟨ad_add_lv hlt lk, ?_⟩
      refine (hp_set_ne _ _ (ad_ne hX.1 lk (Or.inl (by omega)) (by omega))).trans ((hp_set_ne _ _ (ad_ne hX.1 lk (Or.inl (by omega)) (by omega))).trans ?_)
      exact (hX2.2.2 k hk9).2
  refine ev_aload_n dBL_box_0 rfl rfl ?_
  refine ev_iload_n dBL_box_1 rfl rfl ?_
  refine cz_BL_find dBL_box_2 lBL_96 h0 (Nat.le_of_ble_eq_true rfl) (BL_find_ok hX (fun j u q2 => ?_) (fun q2 => ?_))
  · obtain ⟨hx1, hx2, hx3⟩ := fnd_some q2
    have hj : j < ts.length := (List.getElem?_eq_some_iff.mp hx2).1
    obtain ⟨⟨u1, u2⟩, o⟩ := hT j u hx2
    have ref2 : ¬ box_c ts (j, u) g c → P (some (.int (-1))) h n := fun hc => refuse (by rw [box_s, q2]; exact if_neg hc)
    have htl := sl_tot_lt o.2.2.2.2.2.2.2.2.1 u2.len
    refine ev_astore dBL_box_5 (by decide) ?_
    refine ev_aload dBL_box_7 rfl ?_
    refine ev_ifnull dBL_box_9 ?_
    refine ev_aload dBL_box_12 rfl ?_
    refine ev_get dBL_box_14 fBL_100 u1 rfl ?_
    refine ev_iconst (v := nI 3) dBL_box_17 (by decide) ?_
    refine ev_icmp_eq (tgt := 31) dBL_box_18 (by decide) (fun c18 => ?_) (fun c18 => ?_)
    · refine ev_iconst (v := -1) dBL_box_31 (by decide) ?_
      refine ev_iret dBL_box_32 rfl rfl ?_
      exact ref2 (fun z => (show ¬ t_kind u = 3 from z.1) ((nI_eq (by have := o.1; omega) (by decide)).mp c18))
    · refine ev_iload dBL_box_21 rfl ?_
      refine ev_bipush (v := nI 99) dBL_box_23 (by decide) ?_
      refine cz_BL_isWithin dBL_box_25 lBL_66 (Nat.le_of_ble_eq_true rfl) (BL_isWithin_ok (fun p1 p2 => ?_) (fun p1 => ?_))
      · refine ev_if_ne (tgt := 33) dBL_box_28 (by decide) (fun _ => ?_) (fun q9 => absurd q9 (by decide))
        refine ev_aload dBL_box_33 rfl ?_
        refine ev_get dBL_box_35 fBL_103 u1 rfl ?_
        refine ev_if_ne (tgt := 53) dBL_box_38 (by decide) (fun c38 => ?_) (fun c38 => ?_)
        · refine ev_iconst (v := -1) dBL_box_53 (by decide) ?_
          refine ev_iret dBL_box_54 rfl rfl ?_
          exact ref2 (fun z => c38 (by rw [show t_held u = 0 from z.2.2.1]; rfl))
        · refine ev_aload dBL_box_41 rfl ?_
          refine ev_get dBL_box_43 fBL_82 u1 rfl ?_
          refine ev_lload_n dBL_box_46 rfl rfl ?_
          refine cz_La_have dBL_box_47 lBL_107 u2.obj (Nat.le_of_ble_eq_true rfl) (La_have_ok u2 (fun g1 g2 => ?_) (fun g1 => ?_))
          · obtain ⟨g', hg1, hg2, rfl⟩ := lL_in (by omega) g1 g2
            obtain ⟨c', hc', rfl⟩ := iI_lim (by decide) p1 p2
            have htk := sl_tk_len (t_ls u) g'
            have hlen80 := u2.len
            refine ev_if_ne (tgt := 55) dBL_box_50 (by decide) (fun _ => ?_) (fun q9 => absurd q9 (by decide))
            refine ev_aload dBL_box_55 rfl ?_
            refine ev_get dBL_box_57 fBL_82 u1 rfl ?_
            refine ev_lload_n dBL_box_60 rfl rfl ?_
            refine cz_La_sizeOf dBL_box_61 lBL_118 u2.obj (Nat.le_of_ble_eq_true rfl) (La_sizeOf_ok u2 o.2.2.2.2.2.2.2.2.1 (by omega) ?_)
            refine ev_bipush (v := nI 80) dBL_box_64 (by decide) ?_
            refine ev_icmp_gt (tgt := 76) dBL_box_66 (by decide) (fun c66 => False.elim (iI_le_nlt ((nI_leI (by omega) (by decide)).mpr (by omega)) c66)) (fun c66 => ?_)
            refine ev_aload_n dBL_box_69 rfl rfl ?_
            refine cz_BL_isFull dBL_box_70 lBL_71 h0 (Nat.le_of_ble_eq_true rfl) (BL_isFull_ok hX (fun q1 => ?_) (fun q1 => ?_))
            · refine ev_if_eq (tgt := 78) dBL_box_73 (by decide) (fun q9 => absurd q9 (by decide)) (fun _ => ?_)
              refine ev_iconst (v := -1) dBL_box_76 (by decide) ?_
              refine ev_iret dBL_box_77 rfl rfl ?_
              exact ref2 (fun z => absurd z.2.2.2.2 (by omega))
            · refine ev_if_eq (tgt := 78) dBL_box_73 (by decide) (fun _ => ?_) (fun q9 => absurd (by decide) q9)
              refine ev_new (bs := bs+163) (N := 8) dBL_box_78 nBL_9 ?_
              refine ev_dup dBL_box_81 rfl ?_
              refine ev_iconst (v := nI 3) dBL_box_82 (by decide) ?_
              refine ev_iload dBL_box_83 rfl ?_
              refine ev_iconst (v := nI 0) dBL_box_85 (by decide) ?_
              refine ca_Th_init dBL_box_86 lBL_75 (Nat.le_of_ble_eq_true rfl) (bc1 := 3) (bs1 := 163) (bc2 := bc) (bs2 := bs) (by omega) (by omega) (Th_init_ok (hp_set_self _ _ _) (fun h2 q2' q3 => ?_))
              have hlo2 : hp_lo n h h2 := (hp_lo.rf.set (Nat.le_refl _)).tr (q3.lo (by simp <;> omega))
              have bb := fun (k : Nat) (hk : k < 4) => hb _ (ad_th (T := ts.length) (i := j) (j := k) hj hk)
              have bb0 := bb 0 (by omega)
              have bb1 := bb 1 (by omega)
              have bb2 := bb 2 (by omega)
              have bb3 := bb 3 (by omega)
              have hU2 : Th h2 (ad (100 + 4 * j)) (ad (101 + 4 * j)) (ad (102 + 4 * j)) (ad (103 + 4 * j)) u := ⟨(hlo2 _ bb0).trans u1, u2.lo hlo2 bb1 bb2 bb3⟩
              have hjl : (sl_jl [] (sl_tk (t_ls u) g')).length ≤ 80 := (by have := sl_jl_le (sl_tk (t_ls u) g') []; simp at this; omega)
              refine ev_astore dBL_box_89 (by decide) ?_
              refine ev_aload dBL_box_91 rfl ?_
              refine ev_aload dBL_box_93 rfl ?_
              refine ev_lload_n dBL_box_95 rfl rfl ?_
              refine cz_Th_takeFrom dBL_box_96 lBL_114 q2'.1 (Nat.le_of_ble_eq_true rfl) (Th_takeFrom_ok (t := (3, c', 0, 0, 0, 0, 0, [])) q2' hU2 (by simp only [Nat.add_zero] at bb0; omega) (by simp only [show 100 + 1 = 101 from rfl] at bb1; omega) (by simp only [show 100 + 2 = 102 from rfl] at bb2; omega) (by simp only [show 100 + 3 = 103 from rfl] at bb3; omega) (by intro r hr; cases hr) o.2.2.2.2.2.2.2.1 o.2.2.2.2.2.2.2.2.1 (by omega) (show 0 < 2 ^ 31 by decide) (by have := o.2.2.2.2.2.2.1; omega) hjl (fun h3 k1 k2 ho => ?_))
              refine ev_aload_n dBL_box_99 rfl rfl ?_
              refine ev_aload dBL_box_100 rfl ?_
              refine fin j u g' c' h3 q2 rfl rfl (by omega) (by omega) ⟨fun z => c18 (by rw [show t_kind u = 3 from z]), ⟨p1, p2⟩, (show t_held u = 0 from (nI_eq (by have := o.2.2.2.2.2.1; omega) (by decide)).mp c38), ⟨g1, g2⟩, q1⟩ (by have e9 : max 0 (t_warm u) = t_warm u := (by omega); rw [← e9]; exact k1) k2 ?_
              refine fun q hq => (ho q (by simp at hq ⊢; omega)).trans ?_
              simp only [List.mem_cons, List.not_mem_nil, or_false, not_or] at hq
              exact (q3 q (by simp; omega)).trans (hp_set_ne _ _ hq.1)
          · refine ev_if_ne (tgt := 55) dBL_box_50 (by decide) (fun q9 => absurd (by decide) q9) (fun _ => ?_)
            refine ev_iconst (v := -1) dBL_box_53 (by decide) ?_
            refine ev_iret dBL_box_54 rfl rfl ?_
            exact ref2 (fun z => g1 z.2.2.2.1)
      · refine ev_if_ne (tgt := 33) dBL_box_28 (by decide) (fun q9 => absurd (by decide) q9) (fun _ => ?_)
        refine ev_iconst (v := -1) dBL_box_31 (by decide) ?_
        refine ev_iret dBL_box_32 rfl rfl ?_
        exact ref2 (fun z => p1.elim z.2.1.1 (iI_le_nlt z.2.1.2))
  · refine ev_astoreN dBL_box_5 (by decide) ?_
    refine ev_aloadN dBL_box_7 rfl ?_
    refine ev_ifnullN (tgt := 31) dBL_box_9 (by decide) ?_
    refine ev_iconst (v := -1) dBL_box_31 (by decide) ?_
    refine ev_iret dBL_box_32 rfl rfl ?_
    exact refuse (by rw [box_s, q2])
end BL7
