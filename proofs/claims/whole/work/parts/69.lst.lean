/-! the law's state -/
def cpq (h h1 : xH) (ad ad1 : Nat → Nat) (lo hi : Nat) : Prop := ∀ k, lo ≤ k → k < hi → ad1 k = ad k ∧ h1 (ad k) = h (ad k)
def St (h : xH) (n : Nat) (ad tg : Nat → Nat) (ts : List sT) (ys : List Int32) (us : List sU) (cs : List Int32) (as : List sA) : Prop := Iv ts ∧ (∃ lr lq, XT h n ad tg lr lq ts ∧ XN h ad lr lq ys us) ∧ XS h ad ∧ Le h ad cs as ∧ (∃ pg, By h (ad 24) (ad 25) 1130 pg) ∧ ∃ iv ia la, MoH h ad iv ia la ∧ MoT iv ia la ts ∧ MoY iv ia ys ∧ MoU iv ia us ∧ MoG iv ia la cs as
section LST
variable {h h1 h2 : xH} {n n1 T : Nat} {ad ad1 tg tg1 : Nat → Nat} {lr lq : Nat} {ts ts' : List sT} {ys ys' : List Int32} {us us' : List sU} {cs cs' : List Int32} {as as' : List sA} {pg : List Int32} {iv iv' iv2 : Nat → Int32} {ia ia' ia2 : Nat → Nat → Int32} {la la' la2 : Nat → Nat → Int64}
theorem off_cp {S : List Nat} {lo hi : Nat} (hA : ad_ok ad tg T) (o : hp_off S h h1) (K : List Nat) (hS : S = K.map ad) (hK : ∀ k ∈ K, k < 26) (hl : hi ≤ 26 ∨ (1000 ≤ lo ∧ hi ≤ 1027)) (hd : ∀ k ∈ K, k < lo ∨ hi ≤ k) : cpq h h1 ad ad lo hi := by
  intro k k1 k2
  refine ⟨rfl, o _ (fun hm => ?_)⟩
  rw [hS] at hm
  obtain ⟨j, hj, he⟩ := List.mem_map.mp hm
  have lk : ad_lv T k := by
    rcases hl with z | z
    · exact Or.inl (by omega)
    · exact Or.inr (Or.inr ⟨by omega, by omega⟩)
  have hq := hd j hj
  exact ad_ne hA (Or.inl (hK j hj)) lk (by omega) he
theorem FrT.cp (F : FrT ad ad1 h h1) {lo hi : Nat} (hl : (2 ≤ lo ∧ hi ≤ 26) ∨ (1000 ≤ lo ∧ hi ≤ 1027)) : cpq h h1 ad ad1 lo hi := fun k k1 k2 => F.2 k (by omega)
theorem cpq.sub {lo hi lo' hi' : Nat} (c : cpq h h1 ad ad1 lo hi) (a : lo ≤ lo') (b : hi' ≤ hi) : cpq h h1 ad ad1 lo' hi' := fun k k1 k2 => c k (by omega) (by omega)
theorem By.cp {k N : Nat} {bs : List Int32} (B : By h (ad k) (ad (k + 1)) N bs) (c : cpq h h1 ad ad1 k (k + 2)) : By h1 (ad1 k) (ad1 (k + 1)) N bs := by
  obtain ⟨f, a1, a2, a3⟩ := B
  obtain ⟨e1, e2⟩ := c k (by omega) (by omega)
  obtain ⟨e3, e4⟩ := c (k + 1) (by omega) (by omega)
  rw [e1, e3]
  exact ⟨f, e2.trans a1, e4.trans a2, a3⟩
theorem Ru.cp {r : Nat} {us : List sU} (R : Ru h ad r us) (c : cpq h h1 ad ad1 r (r + 5)) : Ru h1 ad1 r us := by
  obtain ⟨f1, f2, f3, f4, a0, a1, a2, a3, a4, a5⟩ := R
  obtain ⟨e0, g0⟩ := c r (by omega) (by omega)
  obtain ⟨e1, g1⟩ := c (r + 1) (by omega) (by omega)
  obtain ⟨e2, g2⟩ := c (r + 2) (by omega) (by omega)
  obtain ⟨e3, g3⟩ := c (r + 3) (by omega) (by omega)
  obtain ⟨e4, g4⟩ := c (r + 4) (by omega) (by omega)
  refine ⟨f1, f2, f3, f4, ?_, ?_, ?_, ?_, ?_, a5⟩
  · rw [e0, e1, e2, e3, e4]; exact g0.trans a0
  · rw [e1]; exact g1.trans a1
  · rw [e2]; exact g2.trans a2
  · rw [e3]; exact g3.trans a3
  · rw [e4]; exact g4.trans a4
theorem Le.cp (L : Le h ad cs as) (c : cpq h h1 ad ad1 19 24) : Le h1 ad1 cs as := by
  obtain ⟨f1, f2, f3, f4, a0, a1, a2, a3, a4, a5⟩ := L
  obtain ⟨e0, g0⟩ := c 19 (by omega) (by omega)
  obtain ⟨e1, g1⟩ := c 20 (by omega) (by omega)
  obtain ⟨e2, g2⟩ := c 21 (by omega) (by omega)
  obtain ⟨e3, g3⟩ := c 22 (by omega) (by omega)
  obtain ⟨e4, g4⟩ := c 23 (by omega) (by omega)
  refine ⟨f1, f2, f3, f4, ?_, ?_, ?_, ?_, ?_, a5⟩
  · rw [e0, e1, e2, e3, e4]; exact g0.trans a0
  · rw [e1]; exact g1.trans a1
  · rw [e2]; exact g2.trans a2
  · rw [e3]; exact g3.trans a3
  · rw [e4]; exact g4.trans a4
theorem XS.cp (S : XS h ad) (c : cpq h h1 ad ad1 2 6) : XS h1 ad1 := by
  obtain ⟨⟨a2, f3, a3⟩, a4, f5, a5⟩ := S
  obtain ⟨e2, g2⟩ := c 2 (by omega) (by omega)
  obtain ⟨e3, g3⟩ := c 3 (by omega) (by omega)
  obtain ⟨e4, g4⟩ := c 4 (by omega) (by omega)
  obtain ⟨e5, g5⟩ := c 5 (by omega) (by omega)
  unfold XS
  rw [e2, e3, e4, e5]
  exact ⟨⟨g2.trans a2, f3, g3.trans a3⟩, g4.trans a4, f5, g5.trans a5⟩
theorem XN.cp2 (N : XN h ad lr lq ys us) (B1 : By h1 (ad1 6) (ad1 7) 400 ys') (e6 : ad1 6 = ad 6) (c : cpq h h1 ad ad1 8 19) : XN h1 ad1 lr lq ys' us := by
  obtain ⟨-, ⟨a, v, h8⟩, R, ⟨us2, R2⟩, hl⟩ := N
  obtain ⟨e8, g8⟩ := c 8 (by omega) (by omega)
  refine ⟨B1, ⟨a, v, ?_⟩, R.cp (c.sub (by omega) (by omega)), ⟨us2, R2.cp (c.sub (by omega) (by omega))⟩, hl⟩
  show h1 (ad1 8) = some (.inr (3, [.ref (ad1 6), .int (nI a), .int v]))
  rw [e8, e6]
  exact g8.trans h8
theorem XN.cp (N : XN h ad lr lq ys us) (c : cpq h h1 ad ad1 6 19) : XN h1 ad1 lr lq ys us := N.cp2 (By.cp (k := 6) N.1 (c.sub (by omega) (by omega))) (c 6 (by omega) (by omega)).1 (c.sub (by omega) (by omega))
theorem MoH.cp (M : MoH h ad iv ia la) (c : cpq h h1 ad ad1 1000 1027) : MoH h1 ad1 iv ia la := by
  obtain ⟨a0, a1, a2⟩ := M
  have e : ∀ k, 1000 ≤ k → k < 1027 → ad1 k = ad k := fun k x y => (c k x y).1
  have e0 : Mo_c ad1 iv = Mo_c ad iv := by simp only [Mo_c, e 1001 (by omega) (by omega), e 1002 (by omega) (by omega), e 1003 (by omega) (by omega), e 1004 (by omega) (by omega), e 1005 (by omega) (by omega), e 1006 (by omega) (by omega), e 1007 (by omega) (by omega), e 1008 (by omega) (by omega), e 1009 (by omega) (by omega), e 1010 (by omega) (by omega), e 1011 (by omega) (by omega), e 1012 (by omega) (by omega), e 1013 (by omega) (by omega), e 1014 (by omega) (by omega), e 1015 (by omega) (by omega), e 1016 (by omega) (by omega), e 1017 (by omega) (by omega), e 1018 (by omega) (by omega), e 1019 (by omega) (by omega), e 1020 (by omega) (by omega), e 1021 (by omega) (by omega), e 1022 (by omega) (by omega), e 1023 (by omega) (by omega), e 1024 (by omega) (by omega), e 1025 (by omega) (by omega), e 1026 (by omega) (by omega)]
  refine ⟨?_, fun p hp => ?_, fun p hp => ?_⟩
  · rw [e0, e 1000 (by omega) (by omega)]
    exact (c 1000 (by omega) (by omega)).2.trans a0
  · have := (moI_lt p hp).2
    rw [e (1000 + p.1) (by omega) (by omega)]
    exact (c (1000 + p.1) (by omega) (by omega)).2.trans (a1 p hp)
  · have := (moL_lt p hp).2
    rw [e (1000 + p.1) (by omega) (by omega)]
    exact (c (1000 + p.1) (by omega) (by omega)).2.trans (a2 p hp)
theorem XT.fr (X : XT h n ad tg lr lq ts) (fr : ∀ k, ad_lv ts.length k → k < 1000 → h1 (ad k) = h (ad k)) : XT h1 n ad tg lr lq ts := by
  obtain ⟨hA, h0, ⟨f, q1, hf1⟩, hl, hT, hlr, hb⟩ := X
  refine ⟨hA, (fr 0 (Or.inl (by omega)) (by omega)).trans h0, ⟨f, (fr 1 (Or.inl (by omega)) (by omega)).trans q1, hf1⟩, hl, fun i t hi => ?_, hlr, hb⟩
  have hi' : i < ts.length := (List.getElem?_eq_some_iff.mp hi).1
  obtain ⟨⟨u1, g1, g2, v1, v2, v3, v4⟩, o⟩ := hT i t hi
  exact ⟨⟨(fr _ (ad_th (j := 0) hi' (by omega)) (by omega)).trans u1, g1, g2, (fr _ (ad_th (j := 1) hi' (by omega)) (by omega)).trans v1, (fr _ (ad_th (j := 2) hi' (by omega)) (by omega)).trans v2, (fr _ (ad_th (j := 3) hi' (by omega)) (by omega)).trans v3, v4⟩, o⟩
theorem MoY.eq (Y : MoY iv ia ys) (h2 : iv' 2 = iv 2) (h13 : ia' 13 = ia 13) : MoY iv' ia' ys := ⟨h2.trans Y.1, Y.2.1, fun k v hv => by rw [h13]; exact Y.2.2 k v hv⟩
theorem MoU.eq (U : MoU iv ia us) (h3 : iv' 3 = iv 3) (hh : ∀ j, 14 ≤ j → j < 18 → ia' j = ia j) : MoU iv' ia' us := ⟨h3.trans U.1, U.2.1, fun k u hu => by rw [hh 14 (by omega) (by omega), hh 15 (by omega) (by omega), hh 16 (by omega) (by omega), hh 17 (by omega) (by omega)]; exact U.2.2 k u hu⟩
theorem MoG.eq (G : MoG iv ia la cs as) (h7 : iv' 7 = iv 7) (h8 : iv' 8 = iv 8) (hh : ∀ j, 22 ≤ j → j < 26 → ia' j = ia j) (hl : la' 25 = la 25) : MoG iv' ia' la' cs as := ⟨h7.trans G.1, G.2.1, fun k u hu => by rw [hh 22 (by omega) (by omega)]; exact G.2.2.1 k u hu, h8.trans G.2.2.2.1, G.2.2.2.2.1, fun k a ha => by rw [hh 23 (by omega) (by omega), hh 24 (by omega) (by omega), hl]; exact G.2.2.2.2.2 k a ha⟩
theorem M_cp (hA : ad_ok ad tg T) (MH : MoH h ad iv ia la) (c : cpq h h1 ad ad 1000 1027) : MoK h1 h1 ad tg T iv ia la := ⟨hA, MH.cp c, fun _ _ => rfl⟩
theorem M_F (hA : ad_ok ad tg T) (MH : MoH h ad iv ia la) (F : FrT ad ad1 h h1) : MoK h1 h1 ad tg T iv ia la := M_cp hA MH (fun k a b => ⟨rfl, (F.2 k (by omega)).2⟩)
theorem St_fin (hI : Iv ts') (X1 : XT h1 n1 ad1 tg1 lr lq ts') (N1 : XN h1 ad1 lr lq ys' us') (S1 : XS h1 ad1) (L1 : Le h1 ad1 cs' as') (B1 : By h1 (ad1 24) (ad1 25) 1130 pg) (e : ∀ k, 1000 ≤ k → k < 1027 → ad1 k = ad k) (M2 : MoK h1 h2 ad tg T iv2 ia2 la2) (T2 : MoT iv2 ia2 la2 ts') (Y2 : MoY iv2 ia2 ys') (U2 : MoU iv2 ia2 us') (G2 : MoG iv2 ia2 la2 cs' as') : St h2 n1 ad1 tg1 ts' ys' us' cs' as' := by
  have fr : ∀ k, ad_lv ts'.length k → k < 1000 → h2 (ad1 k) = h1 (ad1 k) := fun k lk hk => M2.2.2 _ (fun j hj => by
    rw [← e (1000 + j) (by omega) (by omega)]
    exact ad_ne X1.1 lk (Or.inr (Or.inr ⟨by omega, by omega⟩)) (by omega))
  have c : ∀ lo hi, hi ≤ 26 → cpq h1 h2 ad1 ad1 lo hi := fun lo hi hh k a b => ⟨rfl, fr k (Or.inl (by omega)) (by omega)⟩
  exact ⟨hI, ⟨lr, lq, X1.fr fr, N1.cp (c _ _ (by omega))⟩, S1.cp (c _ _ (by omega)), L1.cp (c _ _ (by omega)), ⟨pg, By.cp (k := 24) B1 (c _ _ (by omega))⟩, iv2, ia2, la2, M2.2.1.cp (fun k a b => ⟨e k a b, rfl⟩), T2, Y2, U2, G2⟩
/-- a call that makes or changes things -/
theorem St_A (hI : Iv ts') (N : XN h ad lr lq ys us) (S : XS h ad) (L : Le h ad cs as) (B : By h (ad 24) (ad 25) 1130 pg) (X1 : XT h1 n1 ad1 tg1 lr lq ts') (F : FrT ad ad1 h h1) (M2 : MoK h1 h2 ad tg T iv2 ia2 la2) (T2 : MoT iv2 ia2 la2 ts') (MY : MoY iv ia ys) (MU : MoU iv ia us) (MG : MoG iv ia la cs as) (r : mo_rest iv iv2 ia ia2 la la2) : St h2 n1 ad1 tg1 ts' ys us cs as :=
  St_fin hI X1 (N.cp (F.cp (Or.inl ⟨by omega, by omega⟩))) (S.cp (F.cp (Or.inl ⟨by omega, by omega⟩))) (L.cp (F.cp (Or.inl ⟨by omega, by omega⟩))) (By.cp (k := 24) B (F.cp (Or.inl ⟨by omega, by omega⟩))) (fun k a b => (F.2 k (by omega)).1) M2 T2 (MY.eq (r.2 2 (by omega)) (r.1 13 (by omega)).1) (MU.eq (r.2 3 (by omega)) (fun j a _ => (r.1 j (by omega)).1)) (MG.eq (r.2 7 (by omega)) (r.2 8 (by omega)) (fun j a _ => (r.1 j (by omega)).1) (r.1 25 (by omega)).2)
/-- a call that counts -/
theorem St_C (hI : Iv ts) (X : XT h n ad tg lr lq ts) (N : XN h ad lr lq ys us) (S1 : XS h1 ad) (L : Le h ad cs as) (B : By h (ad 24) (ad 25) 1130 pg) (o : hp_off [ad 3, ad 5] h h1) (MH : MoH h ad iv ia la) (T2 : MoT iv ia la ts) (MY : MoY iv ia ys) (MU : MoU iv ia us) (MG : MoG iv ia la cs as) : St h1 n ad tg ts ys us cs as := by
  have c : ∀ lo hi, 6 ≤ lo → hi ≤ 26 ∨ (1000 ≤ lo ∧ hi ≤ 1027) → cpq h h1 ad ad lo hi := fun lo hi a b => off_cp X.1 o [3, 5] rfl (by decide) b (fun k hk => by simp at hk; omega)
  exact ⟨hI, ⟨lr, lq, X.off o (fun q hq => by simp at hq; rcases hq with rfl | rfl; exact ⟨3, by omega, by omega, rfl⟩; exact ⟨5, by omega, by omega, rfl⟩), N.cp (c _ _ (by omega) (by omega))⟩, S1, L.cp (c _ _ (by omega) (by omega)), ⟨pg, By.cp (k := 24) B (c _ _ (by omega) (by omega))⟩, iv, ia, la, MH.cp (c _ _ (by omega) (by omega)), T2, MY, MU, MG⟩
theorem St_D (hI : Iv ts) (X : XT h n ad tg lr lq ts) (N : XN h ad lr lq ys us) (S : XS h ad) (L : Le h ad cs as) (B : By h (ad 24) (ad 25) 1130 pg) (B1 : By h1 (ad 6) (ad 7) 400 ys') (o : hp_off [ad 6, ad 7] h h1) (M2 : MoK h1 h2 ad tg T iv2 ia2 la) (T1 : MoT iv ia la ts) (Y2 : MoY iv2 ia2 ys') (MU : MoU iv ia us) (MG : MoG iv ia la cs as) (j1 : ∀ j, j ≠ 13 → ia2 j = ia j) (j2 : ∀ j, j ≠ 2 → iv2 j = iv j) : St h2 n ad tg ts ys' us cs as := by
  have c : ∀ lo hi, hi ≤ 6 ∨ 8 ≤ lo → hi ≤ 26 ∨ (1000 ≤ lo ∧ hi ≤ 1027) → cpq h h1 ad ad lo hi := fun lo hi a b => off_cp X.1 o [6, 7] rfl (by decide) b (fun k hk => by simp at hk; omega)
  exact St_fin hI (X.off o (fun q hq => by simp at hq; rcases hq with rfl | rfl; exact ⟨6, by omega, by omega, rfl⟩; exact ⟨7, by omega, by omega, rfl⟩)) (N.cp2 B1 rfl (c _ _ (by omega) (by omega))) (S.cp (c _ _ (by omega) (by omega))) (L.cp (c _ _ (by omega) (by omega))) (By.cp (k := 24) B (c _ _ (by omega) (by omega))) (fun _ _ _ => rfl) M2 (T1.eq (j2 0 (by omega)) (fun j _ _ => j1 j (by omega)) (fun _ _ _ => rfl)) Y2 (MU.eq (j2 3 (by omega)) (fun j _ _ => j1 j (by omega))) (MG.eq (j2 7 (by omega)) (j2 8 (by omega)) (fun j _ _ => j1 j (by omega)) rfl)
theorem St_E {lr' lq' : Nat} (hI : Iv ts) (X1 : XT h1 n ad tg lr' lq' ts) (N1 : XN h1 ad lr' lq' ys' us') (S : XS h ad) (L : Le h ad cs as) (B : By h (ad 24) (ad 25) 1130 pg) (o : hp_off (nm_S ad) h h1) (M2 : MoK h1 h2 ad tg T iv2 ia2 la) (T1 : MoT iv ia la ts) (Y2 : MoY iv2 ia2 ys') (U2 : MoU iv2 ia2 us') (MG : MoG iv ia la cs as) (r : mo_nr iv iv2 ia ia2) : St h2 n ad tg ts ys' us' cs as := by
  have c : ∀ lo hi, (1 ≤ lo ∧ hi ≤ 6) ∨ 19 ≤ lo → hi ≤ 26 ∨ (1000 ≤ lo ∧ hi ≤ 1027) → cpq h h1 ad ad lo hi := fun lo hi a b => off_cp X1.1 o [0, 6, 7, 8, 9, 10, 11, 12, 13, 14, 15, 16, 17, 18] rfl (by decide) b (fun k hk => by simp at hk; omega)
  exact St_fin hI X1 N1 (S.cp (c _ _ (by omega) (by omega))) (L.cp (c _ _ (by omega) (by omega))) (By.cp (k := 24) B (c _ _ (by omega) (by omega))) (fun _ _ _ => rfl) M2 (T1.eq (r.2 0 (by omega)) (fun j _ _ => r.1 j (by omega)) (fun _ _ _ => rfl)) Y2 U2 (MG.eq (r.2 7 (by omega)) (r.2 8 (by omega)) (fun j _ _ => r.1 j (by omega)) rfl)
theorem St_L (hI : Iv ts) (X : XT h n ad tg lr lq ts) (N : XN h ad lr lq ys us) (S : XS h ad) (L1 : Le h1 ad cs' as') (B : By h (ad 24) (ad 25) 1130 pg) (o : hp_off (le_S ad) h h1) (M2 : MoK h1 h2 ad tg T iv2 ia2 la2) (T1 : MoT iv ia la ts) (MY : MoY iv ia ys) (MU : MoU iv ia us) (G2 : MoG iv2 ia2 la2 cs' as') (r : mo_gr iv iv2 ia ia2 la la2) : St h2 n ad tg ts ys us cs' as' := by
  have c : ∀ lo hi, hi ≤ 19 ∨ 24 ≤ lo → hi ≤ 26 ∨ (1000 ≤ lo ∧ hi ≤ 1027) → cpq h h1 ad ad lo hi := fun lo hi a b => off_cp X.1 o [19, 20, 21, 22, 23] rfl (by decide) b (fun k hk => by simp at hk; omega)
  exact St_fin hI (X.off o (fun q hq => by simp at hq; rcases hq with rfl | rfl | rfl | rfl | rfl; exact ⟨19, by omega, by omega, rfl⟩; exact ⟨20, by omega, by omega, rfl⟩; exact ⟨21, by omega, by omega, rfl⟩; exact ⟨22, by omega, by omega, rfl⟩; exact ⟨23, by omega, by omega, rfl⟩)) (N.cp (c _ _ (by omega) (by omega))) (S.cp (c _ _ (by omega) (by omega))) L1 (By.cp (k := 24) B (c _ _ (by omega) (by omega))) (fun _ _ _ => rfl) M2 (T1.eq (r.2 0 (by omega)) (fun j _ _ => (r.1 j (by omega)).1) (fun j _ _ => (r.1 j (by omega)).2)) (MY.eq (r.2 2 (by omega)) (r.1 13 (by omega)).1) (MU.eq (r.2 3 (by omega)) (fun j _ _ => (r.1 j (by omega)).1)) G2
theorem St_P {pg' : List Int32} (hI : Iv ts) (X : XT h n ad tg lr lq ts) (N : XN h ad lr lq ys us) (S : XS h ad) (L : Le h ad cs as) (B1 : By h1 (ad 24) (ad 25) 1130 pg') (o : hp_off (pg_S ad) h h1) (M2 : MoK h1 h2 ad tg T iv2 ia2 la) (T1 : MoT iv ia la ts) (MY : MoY iv ia ys) (MU : MoU iv ia us) (MG : MoG iv ia la cs as) (r : mo_pr iv iv2 ia ia2) : St h2 n ad tg ts ys us cs as := by
  have c : ∀ lo hi, hi ≤ 24 ∨ 1000 ≤ lo → hi ≤ 26 ∨ (1000 ≤ lo ∧ hi ≤ 1027) → cpq h h1 ad ad lo hi := fun lo hi a b => off_cp X.1 o [24, 25] rfl (by decide) b (fun k hk => by simp at hk; omega)
  exact St_fin hI (X.off o (fun q hq => by simp at hq; rcases hq with rfl | rfl; exact ⟨24, by omega, by omega, rfl⟩; exact ⟨25, by omega, by omega, rfl⟩)) (N.cp (c _ _ (by omega) (by omega))) (S.cp (c _ _ (by omega) (by omega))) (L.cp (c _ _ (by omega) (by omega))) B1 (fun _ _ _ => rfl) M2 (T1.pr r) (MY.eq (r.1 2 (by omega)) (r.2 13 (by omega))) (MU.eq (r.1 3 (by omega)) (fun j _ _ => r.2 j (by omega))) (MG.eq (r.1 7 (by omega)) (r.1 8 (by omega)) (fun j _ _ => r.2 j (by omega)) rfl)
theorem gN_in {g : Int64} (h1 : lN 1 ≤ g) (h2 : g ≤ lN 1000000000) : 1 ≤ gN g ∧ gN g ≤ 1000000000 := by
  obtain ⟨g', a, b, rfl⟩ := lL_in (by decide) h1 h2
  rw [gN_lN (by omega)]
  exact ⟨a, b⟩
end LST
