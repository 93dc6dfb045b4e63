def gN (x : Int64) : Nat := x.toInt.toNat
theorem gN_lN {k : Nat} (h : k < 2 ^ 63) : gN (lN k) = k := by
  unfold gN; rw [pk_lT h]; omega
def FrT (ad ad' : Nat → Nat) (h h' : xH) : Prop := ad' 0 = ad 0 ∧ ∀ k, (2 ≤ k ∧ k < 26) ∨ (1000 ≤ k ∧ k < 1027) → ad' k = ad k ∧ h' (ad k) = h (ad k)
theorem FrT.rf {ad : Nat → Nat} {h : xH} : FrT ad ad h h := ⟨rfl, fun _ _ => ⟨rfl, rfl⟩⟩
def haul_s (ts : List sT) (g : Int64) (p y : Int32) : Int32 × List sT := if (lN 1 ≤ g ∧ g ≤ lN 1000000000) ∧ (¬ p < 0 ∧ p ≤ nI 999) ∧ (¬ y < 0 ∧ y ≤ nI 99999) ∧ ts.length < 70 then (nI ts.length, ts ++ [(1, p.toNatClampNeg, y.toNatClampNeg, gN g, 0, 0, 0, [(ts.length, gN g)])]) else (-1, ts)
def batch_s (ts : List sT) : Int32 × List sT := if ts.length < 70 then (nI ts.length, ts ++ [(2, 0, 0, 0, 0, 0, 0, [])]) else (-1, ts)
theorem iI_le_nlt {a b : Int32} (h : a ≤ b) : ¬ b < a := by
  rw [Int32.le_iff_toInt_le] at h; rw [Int32.lt_iff_toInt_lt]; omega
theorem iI_lim {p : Int32} {m : Nat} (hm : m < 2 ^ 31) (h1 : ¬ p < 0) (h2 : p ≤ nI m) : ∃ q : Nat, q ≤ m ∧ p = nI q := by
  obtain ⟨j, hj, rfl⟩ := nI_of h1
  rw [nI_leI hj hm] at h2
  exact ⟨j, h2, rfl⟩
theorem FrT_add {h h' : xH} {n : Nat} {ad tg : Nat → Nat} {lr lq : Nat} {ts : List sT} {f : Nat → Option Nat} (hX : XT h n ad tg lr lq ts) (hl : ts.length < 70) (ho : hp_lo n h h') : FrT ad (ad_add ad ts.length n) h (kp_h h' ad lr lq ts.length n f) := by
  refine ⟨ad_add_lv hl (Or.inl (by omega)), ?_⟩
  intro k hk
  have lk : ad_lv ts.length k := by rcases hk with q | q; exact Or.inl q.2; exact Or.inr (Or.inr q)
  refine ⟨ad_add_lv hl lk, ?_⟩
  refine (hp_set_ne _ _ (ad_ne hX.1 lk (Or.inl (by omega)) (by omega))).trans ((hp_set_ne _ _ (ad_ne hX.1 lk (Or.inl (by omega)) (by omega))).trans ?_)
  exact ho _ (hX.2.2.2.2.2.2 k lk)
theorem La.obj {h : xH} {la ia ga : Nat} {ls : sL} (hL : La h la ia ga ls) : h la = some (.inr (1, [.ref ia, .ref ga, .int (nI ls.length)])) := hL.choose_spec.choose_spec.1
theorem t_ok_mk {a b c e f g w : Nat} {ls : sL} (h1 : a ≤ 3) (h2 : 1 ≤ a) (h3 : b < 1000) (h4 : c < 100000) (h5 : e ≤ 1000000000) (h6 : g ≤ 1) (h7 : w ≤ 4000) (h8 : sl_hb ls) (h9 : sl_gb ls) (h10 : sl_ad ls) (h11 : a = 3 → b < 100) : t_ok (a, b, c, e, f, g, w, ls) := ⟨h1, h2, h3, h4, h5, h6, h7, h8, h9, h10, h11⟩
section BL3
variable {G : xG} {l : Launch} {d bc bs : Nat} {h : xH} {n : Nat} {P : Option Value → xH → Nat → Prop} {ad tg : Nat → Nat} {lr lq : Nat} {ts : List sT}
set_option maxRecDepth 20000 in
set_option maxHeartbeats 1000000 in
theorem BL_haul_ok {g : Int64} {p y : Int32} (hX : XT h n ad tg lr lq ts) (hk : ∀ h' n' ad' tg', XT h' n' ad' tg' lr lq (haul_s ts g p y).2 → FrT ad ad' h h' → n ≤ n' → P (some (.int (haul_s ts g p y).1)) h' n') : ev_Run G l (d + 3) (bc + 4) (bs + 171) mBL_haul 0 [some (.ref (ad 0)), some (.long g), none, some (.int p), some (.int y), none] [] h n P := by
  have refuse : ¬ ((lN 1 ≤ g ∧ g ≤ lN 1000000000) ∧ (¬ p < 0 ∧ p ≤ nI 999) ∧ (¬ y < 0 ∧ y ≤ nI 99999) ∧ ts.length < 70) → P (some (.int (-1))) h n := by
    intro hc
    have := hk h n ad tg
    rw [haul_s, if_neg hc] at this
    exact this hX FrT.rf (Nat.le_refl _)
  obtain ⟨hA, h0, ⟨f, h1, hf1⟩, hl, hT, hlr, hb⟩ := id hX
  have b0 := hb 0 (Or.inl (by omega))
  have b1 := hb 1 (Or.inl (by omega))
  have fin : ∀ (h3 : xH) (p' y' g' : Nat), p' ≤ 999 → y' ≤ 99999 → 1 ≤ g' → g' ≤ 1000000000 → p = nI p' → y = nI y' → g = lN g' → ts.length < 70 → h3 n = some (Th_c (n + 1) (1, p', y', g', 0, 0, 0, [])) → La h3 (n + 1) (n + 2) (n + 3) [(ts.length, g')] → hp_lo n h h3 → ev_Run G l (d + 3) bc bs mBL_haul 73 [some (.ref (ad 0)), some (.long g), none, some (.int p), some (.int y), some (.ref n)] [.ref n, .ref (ad 0)] h3 (n + 4) P := by
    rintro h3 p' y' g' hp hy hg1 hg2 rfl rfl rfl hlt k1 k2 ho
    have hX3 := hX.lo ho
    have h13 := (ho _ b1).trans h1
    have hT3 : Th h3 n (n + 1) (n + 2) (n + 3) (1, p', y', g', 0, 0, 0, [(ts.length, g')]) := ⟨k1, k2⟩
    have hok : t_ok (1, p', y', g', 0, 0, 0, [(ts.length, g')]) := t_ok_mk (by omega) (by omega) (by omega) (by omega) hg2 (by omega) (by omega) (by intro r hr; simp at hr; subst hr; show ts.length < 100; omega) (by intro r hr; simp at hr; subst hr; exact ⟨hg1, by show g' < 10000000000; omega⟩) trivial (by omega)
    refine cz_BL_keep dBL_haul_73 lBL_92 hX3.2.1 (Nat.le_of_ble_eq_true rfl) (BL_keep_ok hX3 h13 hlt k1 ?_)
    refine ev_iret dBL_haul_76 rfl rfl ?_
    skip
    have := hk (kp_h h3 ad lr lq ts.length n f) (n + 4) (ad_add ad ts.length n) (tg_add tg ts.length n)
    rw [haul_s, if_pos ⟨⟨(pk_lLE (by omega) (by omega)).mpr hg1, (pk_lLE (by omega) (by omega)).mpr hg2⟩, ⟨nI_pos (by omega), (nI_leI (by omega) (by omega)).mpr hp⟩, ⟨nI_pos (by omega), (nI_leI (by omega) (by omega)).mpr hy⟩, hlt⟩, nI_clamp (by omega), nI_clamp (by omega), gN_lN (by omega)] at this
    exact this (XT_add hX3 h13 hf1 hlt hT3 hok (Nat.le_refl _)) (FrT_add hX hlt ho) (by omega)
  refine ev_lload_n dBL_haul_0 rfl rfl ?_
  refine cz_BL_isWeight dBL_haul_1 lBL_62 (Nat.le_of_ble_eq_true rfl) (BL_isWeight_ok (fun w1 w2 => ?_) (fun w1 => ?_))
  · refine ev_if_eq (tgt := 27) dBL_haul_4 (by decide) (fun q9 => absurd q9 (by decide)) (fun _ => ?_)
    refine ev_iload_n dBL_haul_7 rfl rfl ?_
    refine ev_sipush (v := nI 999) dBL_haul_8 (by decide) ?_
    refine cz_BL_isWithin dBL_haul_11 lBL_66 (Nat.le_of_ble_eq_true rfl) (BL_isWithin_ok (fun p1 p2 => ?_) (fun p1 => ?_))
    · refine ev_if_eq (tgt := 27) dBL_haul_14 (by decide) (fun q9 => absurd q9 (by decide)) (fun _ => ?_)
      refine ev_iload dBL_haul_17 rfl ?_
      refine ev_ldc (v := nI 99999) dBL_haul_19 qBL_70 ?_
      refine cz_BL_isWithin dBL_haul_21 lBL_66 (Nat.le_of_ble_eq_true rfl) (BL_isWithin_ok (fun y1 y2 => ?_) (fun y1 => ?_))
      · refine ev_if_ne (tgt := 29) dBL_haul_24 (by decide) (fun _ => ?_) (fun q9 => absurd q9 (by decide))
        refine ev_aload_n dBL_haul_29 rfl rfl ?_
        refine cz_BL_isFull dBL_haul_30 lBL_71 h0 (Nat.le_of_ble_eq_true rfl) (BL_isFull_ok hX (fun q1 => ?_) (fun q1 => ?_))
        · refine ev_if_eq (tgt := 38) dBL_haul_33 (by decide) (fun q9 => absurd q9 (by decide)) (fun _ => ?_)
          refine ev_iconst (v := -1) dBL_haul_36 (by decide) ?_
          refine ev_iret dBL_haul_37 rfl rfl ?_
          exact refuse (fun q => absurd q.2.2.2 (by omega))
        · refine ev_if_eq (tgt := 38) dBL_haul_33 (by decide) (fun _ => ?_) (fun q9 => absurd (by decide) q9)
          refine ev_new (bs := bs+163) (N := 8) dBL_haul_38 nBL_9 ?_
          refine ev_dup dBL_haul_41 rfl ?_
          skip
          refine ev_iconst (v := nI 1) dBL_haul_42 (by decide) ?_
          obtain ⟨p', hp', rfl⟩ := iI_lim (by decide) p1 p2
          obtain ⟨y', hy', rfl⟩ := iI_lim (by decide) y1 y2
          obtain ⟨g', hg1, hg2, rfl⟩ := lL_in (by decide) w1 w2
          refine ev_iload_n dBL_haul_43 rfl rfl ?_
          refine ev_iload dBL_haul_44 rfl ?_
          refine ca_Th_init dBL_haul_46 lBL_75 (Nat.le_of_ble_eq_true rfl) (bc1 := 3) (bs1 := 163) (bc2 := bc) (bs2 := bs) (by omega) (by omega) (Th_init_ok (hp_set_self _ _ _) (fun h2 q2 q3 => ?_))
          refine ev_astore dBL_haul_49 (by decide) ?_
          refine ev_aload dBL_haul_51 rfl ?_
          refine ev_lload_n dBL_haul_53 rfl rfl ?_
          refine ev_put dBL_haul_54 fBL_78 tTh_4 q2.1 rfl rfl (Nat.le_of_ble_eq_true rfl) ?_
          refine ev_aload dBL_haul_57 rfl ?_
          refine ev_get dBL_haul_59 fBL_82 (hp_set_self _ _ _) rfl ?_
          refine ev_aload_n dBL_haul_62 rfl rfl ?_
          refine ev_get dBL_haul_63 fBL_15 ((hp_set_ne _ _ (by omega)).trans ((q3 _ (by simp; omega)).trans ((hp_set_ne _ _ (by omega)).trans h0))) rfl ?_
          refine ev_lload_n dBL_haul_66 rfl rfl ?_
          refine cz_La_append dBL_haul_67 lBL_86 ((q2.2.keep (hp_off.rf.set (S := [n]) (by simp)) (by simp <;> omega) (by simp <;> omega) (by simp <;> omega)).obj) (Nat.le_of_ble_eq_true rfl) (La_append_ok (a := ts.length) (x := g') (q2.2.keep (hp_off.rf.set (S := [n]) (by simp)) (by simp <;> omega) (by simp <;> omega) (by simp <;> omega)) (by intro r hr; cases hr) (by omega) (show (sl_jn [] ts.length g').length ≤ 80 by rw [sl_jn_nil]; simp) (fun h3 q4 q5 => ?_))
          refine ev_aload_n dBL_haul_70 rfl rfl ?_
          refine ev_aload dBL_haul_71 rfl ?_
          refine fin h3 p' y' g' hp' hy' hg1 hg2 rfl rfl rfl q1 ((q5 _ (by simp <;> omega)).trans (hp_set_self _ _ _)) q4 ?_
          exact ((((hp_lo.rf.set (Nat.le_refl _)).tr (q3.lo (by simp <;> omega))).set (Nat.le_refl _)).tr (q5.lo (by simp <;> omega)))
      · refine ev_if_ne (tgt := 29) dBL_haul_24 (by decide) (fun q9 => absurd (by decide) q9) (fun _ => ?_)
        refine ev_iconst (v := -1) dBL_haul_27 (by decide) ?_
        refine ev_iret dBL_haul_28 rfl rfl ?_
        exact refuse (fun q => y1.elim q.2.2.1.1 (fun z => iI_le_nlt q.2.2.1.2 z))
    · refine ev_if_eq (tgt := 27) dBL_haul_14 (by decide) (fun _ => ?_) (fun q9 => absurd (by decide) q9)
      refine ev_iconst (v := -1) dBL_haul_27 (by decide) ?_
      refine ev_iret dBL_haul_28 rfl rfl ?_
      exact refuse (fun q => p1.elim q.2.1.1 (fun z => iI_le_nlt q.2.1.2 z))
  · refine ev_if_eq (tgt := 27) dBL_haul_4 (by decide) (fun _ => ?_) (fun q9 => absurd (by decide) q9)
    refine ev_iconst (v := -1) dBL_haul_27 (by decide) ?_
    refine ev_iret dBL_haul_28 rfl rfl ?_
    exact refuse (fun q => w1 q.1)
set_option maxRecDepth 20000 in
set_option maxHeartbeats 1000000 in
theorem BL_batch_ok (hX : XT h n ad tg lr lq ts) (hk : ∀ h' n' ad' tg', XT h' n' ad' tg' lr lq (batch_s ts).2 → FrT ad ad' h h' → n ≤ n' → P (some (.int (batch_s ts).1)) h' n') : ev_Run G l (d + 3) (bc + 4) (bs + 171) mBL_batch 0 [some (.ref (ad 0))] [] h n P := by
  obtain ⟨hA, h0, ⟨f, h1, hf1⟩, hl, hT, hlr, hb⟩ := id hX
  have b0 := hb 0 (Or.inl (by omega))
  have b1 := hb 1 (Or.inl (by omega))
  have refuse : ¬ ts.length < 70 → P (some (.int (-1))) h n := by
    intro hc
    have := hk h n ad tg
    rw [batch_s, if_neg hc] at this
    exact this hX FrT.rf (Nat.le_refl _)
  have fin : ∀ (h3 : xH), ts.length < 70 → Th h3 n (n + 1) (n + 2) (n + 3) (2, 0, 0, 0, 0, 0, 0, []) → hp_lo n h h3 → ev_Run G l (d + 3) bc bs mBL_batch 20 [some (.ref (ad 0))] [.ref n, .ref (ad 0)] h3 (n + 4) P := by
    intro h3 hlt k1 ho
    have hX3 := hX.lo ho
    have h13 := (ho _ b1).trans h1
    have hok : t_ok (2, 0, 0, 0, 0, 0, 0, []) := t_ok_mk (by omega) (by omega) (by omega) (by omega) (by omega) (by omega) (by omega) (by intro r hr; cases hr) (by intro r hr; cases hr) trivial (by omega)
    refine cz_BL_keep dBL_batch_20 lBL_92 hX3.2.1 (Nat.le_of_ble_eq_true rfl) (BL_keep_ok hX3 h13 hlt k1.1 ?_)
    refine ev_iret dBL_batch_23 rfl rfl ?_
    skip
    have := hk (kp_h h3 ad lr lq ts.length n f) (n + 4) (ad_add ad ts.length n) (tg_add tg ts.length n)
    rw [batch_s, if_pos hlt] at this
    exact this (XT_add hX3 h13 hf1 hlt k1 hok (Nat.le_refl _)) (FrT_add hX hlt ho) (by omega)
  refine ev_aload_n dBL_batch_0 rfl rfl ?_
  refine cz_BL_isFull dBL_batch_1 lBL_71 h0 (Nat.le_of_ble_eq_true rfl) (BL_isFull_ok hX (fun q1 => ?_) (fun q1 => ?_))
  · refine ev_if_eq (tgt := 9) dBL_batch_4 (by decide) (fun q9 => absurd q9 (by decide)) (fun _ => ?_)
    refine ev_iconst (v := -1) dBL_batch_7 (by decide) ?_
    refine ev_iret dBL_batch_8 rfl rfl ?_
    exact refuse (by omega)
  · refine ev_if_eq (tgt := 9) dBL_batch_4 (by decide) (fun _ => ?_) (fun q9 => absurd (by decide) q9)
    refine ev_aload_n dBL_batch_9 rfl rfl ?_
    refine ev_new (bs := bs+163) (N := 8) dBL_batch_10 nBL_9 ?_
    refine ev_dup dBL_batch_13 rfl ?_
    refine ev_iconst (v := nI 2) dBL_batch_14 (by decide) ?_
    refine ev_iconst (v := nI 0) dBL_batch_15 (by decide) ?_
    refine ev_iconst (v := nI 0) dBL_batch_16 (by decide) ?_
    refine ca_Th_init dBL_batch_17 lBL_75 (Nat.le_of_ble_eq_true rfl) (bc1 := 3) (bs1 := 163) (bc2 := bc) (bs2 := bs) (by omega) (by omega) (Th_init_ok (hp_set_self _ _ _) (fun h2 q2 q3 => ?_))
    exact fin h2 q1 q2 ((hp_lo.rf.set (Nat.le_refl _)).tr (q3.lo (by simp <;> omega)))
end BL3
