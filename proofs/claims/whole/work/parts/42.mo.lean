/-! the reference's cells: ints by number iv, arrays by label ia (int, boolean), la (long) -/
abbrev Mo_c (ad : Nat → Nat) (iv : Nat → Int32) : xE := .inr (8, [.int (iv 0), .ref (ad 1001), .ref (ad 1002), .ref (ad 1003), .ref (ad 1004), .ref (ad 1005), .ref (ad 1006), .ref (ad 1007), .ref (ad 1008), .ref (ad 1009), .ref (ad 1010), .int (iv 1), .ref (ad 1011), .ref (ad 1012), .int (iv 2), .ref (ad 1013), .int (iv 3), .ref (ad 1014), .ref (ad 1015), .ref (ad 1016), .ref (ad 1017), .int (iv 4), .ref (ad 1018), .ref (ad 1019), .ref (ad 1020), .ref (ad 1021), .int (iv 5), .int (iv 6), .int (iv 7), .ref (ad 1022), .int (iv 8), .ref (ad 1023), .ref (ad 1024), .ref (ad 1025), .int (iv 9), .ref (ad 1026)])
abbrev moI : List (Nat × Nat × Nat) := [(1, 0, 70), (2, 0, 70), (3, 0, 5670), (6, 2, 70), (7, 0, 70), (8, 0, 70), (9, 0, 70), (11, 0, 170), (13, 0, 400), (14, 0, 40), (15, 0, 40), (16, 0, 40), (17, 0, 40), (18, 0, 40), (19, 0, 40), (20, 0, 40), (21, 0, 40), (22, 0, 10), (23, 0, 100), (24, 0, 100), (26, 0, 1300)]
abbrev moL : List (Nat × Nat) := [(4, 5670), (5, 70), (10, 70), (12, 170), (25, 100)]
def MoH (h : xH) (ad : Nat → Nat) (iv : Nat → Int32) (ia : Nat → Nat → Int32) (la : Nat → Nat → Int64) : Prop := h (ad 1000) = some (Mo_c ad iv) ∧ (∀ p ∈ moI, h (ad (1000 + p.1)) = some (.inl (p.2.1, p.2.2, .inl (ia p.1)))) ∧ (∀ p ∈ moL, h (ad (1000 + p.1)) = some (.inl (1, p.2, .inr (.inl (la p.1)))))
def upv {α : Type} (f : Nat → α) (j : Nat) (v : α) : Nat → α := fun k => if k = j then v else f k
theorem upv_s {α : Type} {f : Nat → α} {j : Nat} {v : α} : upv f j v j = v := if_pos rfl
theorem upv_n {α : Type} {f : Nat → α} {j k : Nat} {v : α} (h : k ≠ j) : upv f j v k = f k := if_neg h
section MO
variable {h : xH} {ad tg : Nat → Nat} {T : Nat} {iv : Nat → Int32} {ia : Nat → Nat → Int32} {la : Nat → Nat → Int64}
theorem moI_lt : ∀ p ∈ moI, 1 ≤ p.1 ∧ p.1 < 27 := by decide
theorem moL_lt : ∀ p ∈ moL, 1 ≤ p.1 ∧ p.1 < 27 := by decide
theorem moI_u : ∀ p ∈ moI, ∀ q ∈ moI, p.1 = q.1 → p = q := by decide
theorem moL_u : ∀ p ∈ moL, ∀ q ∈ moL, p.1 = q.1 → p = q := by decide
theorem moIL : ∀ p ∈ moI, ∀ q ∈ moL, p.1 ≠ q.1 := by decide
theorem ad_mo (hA : ad_ok ad tg T) {j k : Nat} (hj : j < 27) (hk : k < 27) (h : j ≠ k) : ad (1000 + j) ≠ ad (1000 + k) := ad_ne hA (Or.inr (Or.inr ⟨by omega, by omega⟩)) (Or.inr (Or.inr ⟨by omega, by omega⟩)) (by omega)
theorem MoH.si {j t N : Nat} {f : Nat → Int32} (hM : MoH h ad iv ia la) (hA : ad_ok ad tg T) (hj : (j, t, N) ∈ moI) : MoH (hp_set h (ad (1000 + j)) (.inl (t, N, .inl f))) ad iv (upv ia j f) la := by
  have hb := moI_lt _ hj
  refine ⟨(hp_set_ne _ _ (ad_mo hA (j := 0) (by omega) hb.2 (by have := hb.1; omega))).trans hM.1, fun p hp => ?_, fun p hp => ?_⟩
  · by_cases e : p.1 = j
    · have := moI_u p hp _ hj e
      subst this
      rw [upv_s]; exact hp_set_self _ _ _
    · rw [upv_n e]; exact (hp_set_ne _ _ (ad_mo hA (moI_lt p hp).2 hb.2 e)).trans (hM.2.1 p hp)
  · exact (hp_set_ne _ _ (ad_mo hA (moL_lt p hp).2 hb.2 (fun z => moIL _ hj p hp z.symm))).trans (hM.2.2 p hp)
theorem MoH.sl {j N : Nat} {f : Nat → Int64} (hM : MoH h ad iv ia la) (hA : ad_ok ad tg T) (hj : (j, N) ∈ moL) : MoH (hp_set h (ad (1000 + j)) (.inl (1, N, .inr (.inl f)))) ad iv ia (upv la j f) := by
  have hb := moL_lt _ hj
  refine ⟨(hp_set_ne _ _ (ad_mo hA (j := 0) (by omega) hb.2 (by have := hb.1; omega))).trans hM.1, fun p hp => ?_, fun p hp => ?_⟩
  · exact (hp_set_ne _ _ (ad_mo hA (moI_lt p hp).2 hb.2 (moIL p hp _ hj))).trans (hM.2.1 p hp)
  · by_cases e : p.1 = j
    · have := moL_u p hp _ hj e
      subst this
      rw [upv_s]; exact hp_set_self _ _ _
    · rw [upv_n e]; exact (hp_set_ne _ _ (ad_mo hA (moL_lt p hp).2 hb.2 e)).trans (hM.2.2 p hp)
theorem MoH.so {iv' : Nat → Int32} {e : xE} (hM : MoH h ad iv ia la) (hA : ad_ok ad tg T) (he : e = Mo_c ad iv') : MoH (hp_set h (ad 1000) e) ad iv' ia la := by
  subst he
  refine ⟨hp_set_self _ _ _, fun p hp => ?_, fun p hp => ?_⟩
  · exact (hp_set_ne _ _ (ad_mo hA (k := 0) (moI_lt p hp).2 (by omega) (by have := (moI_lt p hp).1; omega))).trans (hM.2.1 p hp)
  · exact (hp_set_ne _ _ (ad_mo hA (k := 0) (moL_lt p hp).2 (by omega) (by have := (moL_lt p hp).1; omega))).trans (hM.2.2 p hp)
theorem MoH.g1 (hM : MoH h ad iv ia la) : h (ad 1001) = some (.inl (0, 70, .inl (ia 1))) := hM.2.1 (1, 0, 70) (by decide)
theorem MoH.s1 {f : Nat → Int32} (hM : MoH h ad iv ia la) (hA : ad_ok ad tg T) : MoH (hp_set h (ad 1001) (.inl (0, 70, .inl f))) ad iv (upv ia 1 f) la := hM.si (j := 1) hA (by decide)
theorem MoH.g2 (hM : MoH h ad iv ia la) : h (ad 1002) = some (.inl (0, 70, .inl (ia 2))) := hM.2.1 (2, 0, 70) (by decide)
theorem MoH.s2 {f : Nat → Int32} (hM : MoH h ad iv ia la) (hA : ad_ok ad tg T) : MoH (hp_set h (ad 1002) (.inl (0, 70, .inl f))) ad iv (upv ia 2 f) la := hM.si (j := 2) hA (by decide)
theorem MoH.g3 (hM : MoH h ad iv ia la) : h (ad 1003) = some (.inl (0, 5670, .inl (ia 3))) := hM.2.1 (3, 0, 5670) (by decide)
theorem MoH.s3 {f : Nat → Int32} (hM : MoH h ad iv ia la) (hA : ad_ok ad tg T) : MoH (hp_set h (ad 1003) (.inl (0, 5670, .inl f))) ad iv (upv ia 3 f) la := hM.si (j := 3) hA (by decide)
theorem MoH.g6 (hM : MoH h ad iv ia la) : h (ad 1006) = some (.inl (2, 70, .inl (ia 6))) := hM.2.1 (6, 2, 70) (by decide)
theorem MoH.s6 {f : Nat → Int32} (hM : MoH h ad iv ia la) (hA : ad_ok ad tg T) : MoH (hp_set h (ad 1006) (.inl (2, 70, .inl f))) ad iv (upv ia 6 f) la := hM.si (j := 6) hA (by decide)
theorem MoH.g7 (hM : MoH h ad iv ia la) : h (ad 1007) = some (.inl (0, 70, .inl (ia 7))) := hM.2.1 (7, 0, 70) (by decide)
theorem MoH.s7 {f : Nat → Int32} (hM : MoH h ad iv ia la) (hA : ad_ok ad tg T) : MoH (hp_set h (ad 1007) (.inl (0, 70, .inl f))) ad iv (upv ia 7 f) la := hM.si (j := 7) hA (by decide)
theorem MoH.g8 (hM : MoH h ad iv ia la) : h (ad 1008) = some (.inl (0, 70, .inl (ia 8))) := hM.2.1 (8, 0, 70) (by decide)
theorem MoH.s8 {f : Nat → Int32} (hM : MoH h ad iv ia la) (hA : ad_ok ad tg T) : MoH (hp_set h (ad 1008) (.inl (0, 70, .inl f))) ad iv (upv ia 8 f) la := hM.si (j := 8) hA (by decide)
theorem MoH.g9 (hM : MoH h ad iv ia la) : h (ad 1009) = some (.inl (0, 70, .inl (ia 9))) := hM.2.1 (9, 0, 70) (by decide)
theorem MoH.s9 {f : Nat → Int32} (hM : MoH h ad iv ia la) (hA : ad_ok ad tg T) : MoH (hp_set h (ad 1009) (.inl (0, 70, .inl f))) ad iv (upv ia 9 f) la := hM.si (j := 9) hA (by decide)
theorem MoH.g11 (hM : MoH h ad iv ia la) : h (ad 1011) = some (.inl (0, 170, .inl (ia 11))) := hM.2.1 (11, 0, 170) (by decide)
theorem MoH.s11 {f : Nat → Int32} (hM : MoH h ad iv ia la) (hA : ad_ok ad tg T) : MoH (hp_set h (ad 1011) (.inl (0, 170, .inl f))) ad iv (upv ia 11 f) la := hM.si (j := 11) hA (by decide)
theorem MoH.g13 (hM : MoH h ad iv ia la) : h (ad 1013) = some (.inl (0, 400, .inl (ia 13))) := hM.2.1 (13, 0, 400) (by decide)
theorem MoH.s13 {f : Nat → Int32} (hM : MoH h ad iv ia la) (hA : ad_ok ad tg T) : MoH (hp_set h (ad 1013) (.inl (0, 400, .inl f))) ad iv (upv ia 13 f) la := hM.si (j := 13) hA (by decide)
theorem MoH.g14 (hM : MoH h ad iv ia la) : h (ad 1014) = some (.inl (0, 40, .inl (ia 14))) := hM.2.1 (14, 0, 40) (by decide)
theorem MoH.s14 {f : Nat → Int32} (hM : MoH h ad iv ia la) (hA : ad_ok ad tg T) : MoH (hp_set h (ad 1014) (.inl (0, 40, .inl f))) ad iv (upv ia 14 f) la := hM.si (j := 14) hA (by decide)
theorem MoH.g15 (hM : MoH h ad iv ia la) : h (ad 1015) = some (.inl (0, 40, .inl (ia 15))) := hM.2.1 (15, 0, 40) (by decide)
theorem MoH.s15 {f : Nat → Int32} (hM : MoH h ad iv ia la) (hA : ad_ok ad tg T) : MoH (hp_set h (ad 1015) (.inl (0, 40, .inl f))) ad iv (upv ia 15 f) la := hM.si (j := 15) hA (by decide)
theorem MoH.g16 (hM : MoH h ad iv ia la) : h (ad 1016) = some (.inl (0, 40, .inl (ia 16))) := hM.2.1 (16, 0, 40) (by decide)
theorem MoH.s16 {f : Nat → Int32} (hM : MoH h ad iv ia la) (hA : ad_ok ad tg T) : MoH (hp_set h (ad 1016) (.inl (0, 40, .inl f))) ad iv (upv ia 16 f) la := hM.si (j := 16) hA (by decide)
theorem MoH.g17 (hM : MoH h ad iv ia la) : h (ad 1017) = some (.inl (0, 40, .inl (ia 17))) := hM.2.1 (17, 0, 40) (by decide)
theorem MoH.s17 {f : Nat → Int32} (hM : MoH h ad iv ia la) (hA : ad_ok ad tg T) : MoH (hp_set h (ad 1017) (.inl (0, 40, .inl f))) ad iv (upv ia 17 f) la := hM.si (j := 17) hA (by decide)
theorem MoH.g18 (hM : MoH h ad iv ia la) : h (ad 1018) = some (.inl (0, 40, .inl (ia 18))) := hM.2.1 (18, 0, 40) (by decide)
theorem MoH.s18 {f : Nat → Int32} (hM : MoH h ad iv ia la) (hA : ad_ok ad tg T) : MoH (hp_set h (ad 1018) (.inl (0, 40, .inl f))) ad iv (upv ia 18 f) la := hM.si (j := 18) hA (by decide)
theorem MoH.g19 (hM : MoH h ad iv ia la) : h (ad 1019) = some (.inl (0, 40, .inl (ia 19))) := hM.2.1 (19, 0, 40) (by decide)
theorem MoH.s19 {f : Nat → Int32} (hM : MoH h ad iv ia la) (hA : ad_ok ad tg T) : MoH (hp_set h (ad 1019) (.inl (0, 40, .inl f))) ad iv (upv ia 19 f) la := hM.si (j := 19) hA (by decide)
theorem MoH.g20 (hM : MoH h ad iv ia la) : h (ad 1020) = some (.inl (0, 40, .inl (ia 20))) := hM.2.1 (20, 0, 40) (by decide)
theorem MoH.s20 {f : Nat → Int32} (hM : MoH h ad iv ia la) (hA : ad_ok ad tg T) : MoH (hp_set h (ad 1020) (.inl (0, 40, .inl f))) ad iv (upv ia 20 f) la := hM.si (j := 20) hA (by decide)
theorem MoH.g21 (hM : MoH h ad iv ia la) : h (ad 1021) = some (.inl (0, 40, .inl (ia 21))) := hM.2.1 (21, 0, 40) (by decide)
theorem MoH.s21 {f : Nat → Int32} (hM : MoH h ad iv ia la) (hA : ad_ok ad tg T) : MoH (hp_set h (ad 1021) (.inl (0, 40, .inl f))) ad iv (upv ia 21 f) la := hM.si (j := 21) hA (by decide)
theorem MoH.g22 (hM : MoH h ad iv ia la) : h (ad 1022) = some (.inl (0, 10, .inl (ia 22))) := hM.2.1 (22, 0, 10) (by decide)
theorem MoH.s22 {f : Nat → Int32} (hM : MoH h ad iv ia la) (hA : ad_ok ad tg T) : MoH (hp_set h (ad 1022) (.inl (0, 10, .inl f))) ad iv (upv ia 22 f) la := hM.si (j := 22) hA (by decide)
theorem MoH.g23 (hM : MoH h ad iv ia la) : h (ad 1023) = some (.inl (0, 100, .inl (ia 23))) := hM.2.1 (23, 0, 100) (by decide)
theorem MoH.s23 {f : Nat → Int32} (hM : MoH h ad iv ia la) (hA : ad_ok ad tg T) : MoH (hp_set h (ad 1023) (.inl (0, 100, .inl f))) ad iv (upv ia 23 f) la := hM.si (j := 23) hA (by decide)
theorem MoH.g24 (hM : MoH h ad iv ia la) : h (ad 1024) = some (.inl (0, 100, .inl (ia 24))) := hM.2.1 (24, 0, 100) (by decide)
theorem MoH.s24 {f : Nat → Int32} (hM : MoH h ad iv ia la) (hA : ad_ok ad tg T) : MoH (hp_set h (ad 1024) (.inl (0, 100, .inl f))) ad iv (upv ia 24 f) la := hM.si (j := 24) hA (by decide)
theorem MoH.g26 (hM : MoH h ad iv ia la) : h (ad 1026) = some (.inl (0, 1300, .inl (ia 26))) := hM.2.1 (26, 0, 1300) (by decide)
theorem MoH.s26 {f : Nat → Int32} (hM : MoH h ad iv ia la) (hA : ad_ok ad tg T) : MoH (hp_set h (ad 1026) (.inl (0, 1300, .inl f))) ad iv (upv ia 26 f) la := hM.si (j := 26) hA (by decide)
theorem MoH.g4 (hM : MoH h ad iv ia la) : h (ad 1004) = some (.inl (1, 5670, .inr (.inl (la 4)))) := hM.2.2 (4, 5670) (by decide)
theorem MoH.s4 {f : Nat → Int64} (hM : MoH h ad iv ia la) (hA : ad_ok ad tg T) : MoH (hp_set h (ad 1004) (.inl (1, 5670, .inr (.inl f)))) ad iv ia (upv la 4 f) := hM.sl (j := 4) hA (by decide)
theorem MoH.g5 (hM : MoH h ad iv ia la) : h (ad 1005) = some (.inl (1, 70, .inr (.inl (la 5)))) := hM.2.2 (5, 70) (by decide)
theorem MoH.s5 {f : Nat → Int64} (hM : MoH h ad iv ia la) (hA : ad_ok ad tg T) : MoH (hp_set h (ad 1005) (.inl (1, 70, .inr (.inl f)))) ad iv ia (upv la 5 f) := hM.sl (j := 5) hA (by decide)
theorem MoH.g10 (hM : MoH h ad iv ia la) : h (ad 1010) = some (.inl (1, 70, .inr (.inl (la 10)))) := hM.2.2 (10, 70) (by decide)
theorem MoH.s10 {f : Nat → Int64} (hM : MoH h ad iv ia la) (hA : ad_ok ad tg T) : MoH (hp_set h (ad 1010) (.inl (1, 70, .inr (.inl f)))) ad iv ia (upv la 10 f) := hM.sl (j := 10) hA (by decide)
theorem MoH.g12 (hM : MoH h ad iv ia la) : h (ad 1012) = some (.inl (1, 170, .inr (.inl (la 12)))) := hM.2.2 (12, 170) (by decide)
theorem MoH.s12 {f : Nat → Int64} (hM : MoH h ad iv ia la) (hA : ad_ok ad tg T) : MoH (hp_set h (ad 1012) (.inl (1, 170, .inr (.inl f)))) ad iv ia (upv la 12 f) := hM.sl (j := 12) hA (by decide)
theorem MoH.g25 (hM : MoH h ad iv ia la) : h (ad 1025) = some (.inl (1, 100, .inr (.inl (la 25)))) := hM.2.2 (25, 100) (by decide)
theorem MoH.s25 {f : Nat → Int64} (hM : MoH h ad iv ia la) (hA : ad_ok ad tg T) : MoH (hp_set h (ad 1025) (.inl (1, 100, .inr (.inl f)))) ad iv ia (upv la 25 f) := hM.sl (j := 25) hA (by decide)
theorem Mo_c0 {v : Int32} : (Sum.inr (8, [.int v, .ref (ad 1001), .ref (ad 1002), .ref (ad 1003), .ref (ad 1004), .ref (ad 1005), .ref (ad 1006), .ref (ad 1007), .ref (ad 1008), .ref (ad 1009), .ref (ad 1010), .int (iv 1), .ref (ad 1011), .ref (ad 1012), .int (iv 2), .ref (ad 1013), .int (iv 3), .ref (ad 1014), .ref (ad 1015), .ref (ad 1016), .ref (ad 1017), .int (iv 4), .ref (ad 1018), .ref (ad 1019), .ref (ad 1020), .ref (ad 1021), .int (iv 5), .int (iv 6), .int (iv 7), .ref (ad 1022), .int (iv 8), .ref (ad 1023), .ref (ad 1024), .ref (ad 1025), .int (iv 9), .ref (ad 1026)]) : xE) = Mo_c ad (upv iv 0 v) := rfl
theorem Mo_c1 {v : Int32} : (Sum.inr (8, [.int (iv 0), .ref (ad 1001), .ref (ad 1002), .ref (ad 1003), .ref (ad 1004), .ref (ad 1005), .ref (ad 1006), .ref (ad 1007), .ref (ad 1008), .ref (ad 1009), .ref (ad 1010), .int v, .ref (ad 1011), .ref (ad 1012), .int (iv 2), .ref (ad 1013), .int (iv 3), .ref (ad 1014), .ref (ad 1015), .ref (ad 1016), .ref (ad 1017), .int (iv 4), .ref (ad 1018), .ref (ad 1019), .ref (ad 1020), .ref (ad 1021), .int (iv 5), .int (iv 6), .int (iv 7), .ref (ad 1022), .int (iv 8), .ref (ad 1023), .ref (ad 1024), .ref (ad 1025), .int (iv 9), .ref (ad 1026)]) : xE) = Mo_c ad (upv iv 1 v) := rfl
theorem Mo_c2 {v : Int32} : (Sum.inr (8, [.int (iv 0), .ref (ad 1001), .ref (ad 1002), .ref (ad 1003), .ref (ad 1004), .ref (ad 1005), .ref (ad 1006), .ref (ad 1007), .ref (ad 1008), .ref (ad 1009), .ref (ad 1010), .int (iv 1), .ref (ad 1011), .ref (ad 1012), .int v, .ref (ad 1013), .int (iv 3), .ref (ad 1014), .ref (ad 1015), .ref (ad 1016), .ref (ad 1017), .int (iv 4), .ref (ad 1018), .ref (ad 1019), .ref (ad 1020), .ref (ad 1021), .int (iv 5), .int (iv 6), .int (iv 7), .ref (ad 1022), .int (iv 8), .ref (ad 1023), .ref (ad 1024), .ref (ad 1025), .int (iv 9), .ref (ad 1026)]) : xE) = Mo_c ad (upv iv 2 v) := rfl
theorem Mo_c3 {v : Int32} : (Sum.inr (8, [.int (iv 0), .ref (ad 1001), .ref (ad 1002), .ref (ad 1003), .ref (ad 1004), .ref (ad 1005), .ref (ad 1006), .ref (ad 1007), .ref (ad 1008), .ref (ad 1009), .ref (ad 1010), .int (iv 1), .ref (ad 1011), .ref (ad 1012), .int (iv 2), .ref (ad 1013), .int v, .ref (ad 1014), .ref (ad 1015), .ref (ad 1016), .ref (ad 1017), .int (iv 4), .ref (ad 1018), .ref (ad 1019), .ref (ad 1020), .ref (ad 1021), .int (iv 5), .int (iv 6), .int (iv 7), .ref (ad 1022), .int (iv 8), .ref (ad 1023), .ref (ad 1024), .ref (ad 1025), .int (iv 9), .ref (ad 1026)]) : xE) = Mo_c ad (upv iv 3 v) := rfl
theorem Mo_c4 {v : Int32} : (Sum.inr (8, [.int (iv 0), .ref (ad 1001), .ref (ad 1002), .ref (ad 1003), .ref (ad 1004), .ref (ad 1005), .ref (ad 1006), .ref (ad 1007), .ref (ad 1008), .ref (ad 1009), .ref (ad 1010), .int (iv 1), .ref (ad 1011), .ref (ad 1012), .int (iv 2), .ref (ad 1013), .int (iv 3), .ref (ad 1014), .ref (ad 1015), .ref (ad 1016), .ref (ad 1017), .int v, .ref (ad 1018), .ref (ad 1019), .ref (ad 1020), .ref (ad 1021), .int (iv 5), .int (iv 6), .int (iv 7), .ref (ad 1022), .int (iv 8), .ref (ad 1023), .ref (ad 1024), .ref (ad 1025), .int (iv 9), .ref (ad 1026)]) : xE) = Mo_c ad (upv iv 4 v) := rfl
theorem Mo_c5 {v : Int32} : (Sum.inr (8, [.int (iv 0), .ref (ad 1001), .ref (ad 1002), .ref (ad 1003), .ref (ad 1004), .ref (ad 1005), .ref (ad 1006), .ref (ad 1007), .ref (ad 1008), .ref (ad 1009), .ref (ad 1010), .int (iv 1), .ref (ad 1011), .ref (ad 1012), .int (iv 2), .ref (ad 1013), .int (iv 3), .ref (ad 1014), .ref (ad 1015), .ref (ad 1016), .ref (ad 1017), .int (iv 4), .ref (ad 1018), .ref (ad 1019), .ref (ad 1020), .ref (ad 1021), .int v, .int (iv 6), .int (iv 7), .ref (ad 1022), .int (iv 8), .ref (ad 1023), .ref (ad 1024), .ref (ad 1025), .int (iv 9), .ref (ad 1026)]) : xE) = Mo_c ad (upv iv 5 v) := rfl
theorem Mo_c6 {v : Int32} : (Sum.inr (8, [.int (iv 0), .ref (ad 1001), .ref (ad 1002), .ref (ad 1003), .ref (ad 1004), .ref (ad 1005), .ref (ad 1006), .ref (ad 1007), .ref (ad 1008), .ref (ad 1009), .ref (ad 1010), .int (iv 1), .ref (ad 1011), .ref (ad 1012), .int (iv 2), .ref (ad 1013), .int (iv 3), .ref (ad 1014), .ref (ad 1015), .ref (ad 1016), .ref (ad 1017), .int (iv 4), .ref (ad 1018), .ref (ad 1019), .ref (ad 1020), .ref (ad 1021), .int (iv 5), .int v, .int (iv 7), .ref (ad 1022), .int (iv 8), .ref (ad 1023), .ref (ad 1024), .ref (ad 1025), .int (iv 9), .ref (ad 1026)]) : xE) = Mo_c ad (upv iv 6 v) := rfl
theorem Mo_c7 {v : Int32} : (Sum.inr (8, [.int (iv 0), .ref (ad 1001), .ref (ad 1002), .ref (ad 1003), .ref (ad 1004), .ref (ad 1005), .ref (ad 1006), .ref (ad 1007), .ref (ad 1008), .ref (ad 1009), .ref (ad 1010), .int (iv 1), .ref (ad 1011), .ref (ad 1012), .int (iv 2), .ref (ad 1013), .int (iv 3), .ref (ad 1014), .ref (ad 1015), .ref (ad 1016), .ref (ad 1017), .int (iv 4), .ref (ad 1018), .ref (ad 1019), .ref (ad 1020), .ref (ad 1021), .int (iv 5), .int (iv 6), .int v, .ref (ad 1022), .int (iv 8), .ref (ad 1023), .ref (ad 1024), .ref (ad 1025), .int (iv 9), .ref (ad 1026)]) : xE) = Mo_c ad (upv iv 7 v) := rfl
theorem Mo_c8 {v : Int32} : (Sum.inr (8, [.int (iv 0), .ref (ad 1001), .ref (ad 1002), .ref (ad 1003), .ref (ad 1004), .ref (ad 1005), .ref (ad 1006), .ref (ad 1007), .ref (ad 1008), .ref (ad 1009), .ref (ad 1010), .int (iv 1), .ref (ad 1011), .ref (ad 1012), .int (iv 2), .ref (ad 1013), .int (iv 3), .ref (ad 1014), .ref (ad 1015), .ref (ad 1016), .ref (ad 1017), .int (iv 4), .ref (ad 1018), .ref (ad 1019), .ref (ad 1020), .ref (ad 1021), .int (iv 5), .int (iv 6), .int (iv 7), .ref (ad 1022), .int v, .ref (ad 1023), .ref (ad 1024), .ref (ad 1025), .int (iv 9), .ref (ad 1026)]) : xE) = Mo_c ad (upv iv 8 v) := rfl
theorem Mo_c9 {v : Int32} : (Sum.inr (8, [.int (iv 0), .ref (ad 1001), .ref (ad 1002), .ref (ad 1003), .ref (ad 1004), .ref (ad 1005), .ref (ad 1006), .ref (ad 1007), .ref (ad 1008), .ref (ad 1009), .ref (ad 1010), .int (iv 1), .ref (ad 1011), .ref (ad 1012), .int (iv 2), .ref (ad 1013), .int (iv 3), .ref (ad 1014), .ref (ad 1015), .ref (ad 1016), .ref (ad 1017), .int (iv 4), .ref (ad 1018), .ref (ad 1019), .ref (ad 1020), .ref (ad 1021), .int (iv 5), .int (iv 6), .int (iv 7), .ref (ad 1022), .int (iv 8), .ref (ad 1023), .ref (ad 1024), .ref (ad 1025), .int v, .ref (ad 1026)]) : xE) = Mo_c ad (upv iv 9 v) := rfl
end MO
