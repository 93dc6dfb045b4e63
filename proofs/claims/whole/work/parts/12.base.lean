/-! pure words: layers as a list of (haul, grams) -/
abbrev sL : Type := List (Nat × Nat)
def sl_tot (ls : sL) : Nat := (ls.map Prod.snd).sum
def sl_of (ls : sL) (t : Nat) : Nat := (ls.map (fun p => if p.1 = t then p.2 else 0)).sum
theorem sl_tot_take {ls : sL} {j : Nat} {p : Nat × Nat} (h : ls[j]? = some p) : sl_tot (ls.take (j + 1)) = sl_tot (ls.take j) + p.2 := by
  simp [sl_tot, List.take_add_one, h]
theorem sl_of_take {ls : sL} {j t : Nat} {p : Nat × Nat} (h : ls[j]? = some p) : sl_of (ls.take (j + 1)) t = sl_of (ls.take j) t + (if p.1 = t then p.2 else 0) := by
  simp [sl_of, List.take_add_one, h]
theorem sl_get {ls : sL} {j : Nat} (h : j < ls.length) : ∃ p, ls[j]? = some p := ⟨_, List.getElem?_eq_getElem h⟩
/-- the heap is as before but at these addresses -/
def hp_off (S : List Nat) (h h' : xH) : Prop := ∀ q : Nat, q ∉ S → h' q = h q
theorem hp_off.rf {S : List Nat} {h : xH} : hp_off S h h := fun _ _ => rfl
theorem hp_off.tr {S : List Nat} {h h' h'' : xH} (a : hp_off S h h') (b : hp_off S h' h'') : hp_off S h h'' := fun q hq => (b q hq).trans (a q hq)
theorem hp_off.set {S : List Nat} {h h' : xH} {a : Nat} {e : xE} (hh : hp_off S h h') (ha : a ∈ S) : hp_off S h (hp_set h' a e) := fun q hq => (hp_set_ne h' e (fun z : q = a => hq (by rw [z]; exact ha))).trans (hh q hq)
theorem hp_off.mono {S S' : List Nat} {h h' : xH} (a : hp_off S h h') (hs : ∀ q ∈ S, q ∈ S') : hp_off S' h h' := fun q hq => a q (fun z => hq (hs q z))
/-- a Layers object with its two arrays -/
def La (h : xH) (la ia ga : Nat) (ls : sL) : Prop := ∃ (f : Nat → Int32) (g : Nat → Int64), h la = some (.inr (1, [.ref ia, .ref ga, .int (nI ls.length)])) ∧ h ia = some (.inl (0, 80, .inl f)) ∧ h ga = some (.inl (1, 80, .inr (.inl g))) ∧ ls.length ≤ 80 ∧ ∀ (k : Nat) (p : Nat × Nat), ls[k]? = some p → f k = nI p.1 ∧ g k = lN p.2
theorem nI_lt0 {j : Nat} (h : j < 2 ^ 31) : ¬ nI j < 0 := nI_pos h
/-- an int is below 0, at n or above, or a number below n -/
theorem ix_in {x : Int32} {n : Nat} (hn : n < 2 ^ 31) (h0 : ¬ x < 0) (h1 : ¬ nI n ≤ x) : ∃ j : Nat, j < n ∧ x = nI j := by
  rcases pk_ix x hn with h | h | h
  · exact absurd h h0
  · exact absurd h h1
  · exact h
theorem lL_nlt {a b : Int64} (h : ¬ a < b) : b ≤ a := by
  rw [Int64.lt_iff_toInt_lt] at h; rw [Int64.le_iff_toInt_le]; omega
theorem lL_nle {a b : Int64} (h : ¬ a ≤ b) : b < a := by
  rw [Int64.le_iff_toInt_le] at h; rw [Int64.lt_iff_toInt_lt]; omega
theorem iI_nlt {a b : Int32} (h : ¬ a < b) : b ≤ a := by
  rw [Int32.lt_iff_toInt_lt] at h; rw [Int32.le_iff_toInt_le]; omega
theorem iI_nle {a b : Int32} (h : ¬ a ≤ b) : b < a := by
  rw [Int32.le_iff_toInt_le] at h; rw [Int32.lt_iff_toInt_lt]; omega
theorem lL_lt_nle {a b : Int64} (h : a < b) : ¬ b ≤ a := by
  rw [Int64.lt_iff_toInt_lt] at h; rw [Int64.le_iff_toInt_le]; omega
theorem iI_lt_nle {a b : Int32} (h : a < b) : ¬ b ≤ a := by
  rw [Int32.lt_iff_toInt_lt] at h; rw [Int32.le_iff_toInt_le]; omega
/-- a long from 1 to a number is a number -/
theorem lL_in {x : Int64} {m : Nat} (hm : m < 2 ^ 63) (h1 : lN 1 ≤ x) (h2 : x ≤ lN m) : ∃ g : Nat, 1 ≤ g ∧ g ≤ m ∧ x = lN g := by
  have h0 : ¬ x < 0 := by
    rw [Int64.le_iff_toInt_le, pk_lT (by omega)] at h1
    rw [Int64.lt_iff_toInt_lt, show (0 : Int64).toInt = 0 from rfl]; omega
  obtain ⟨g, hg, rfl⟩ := pk_lOf h0
  rw [pk_lLE (by omega) hg] at h1
  rw [pk_lLE hg hm] at h2
  exact ⟨g, h1, h2, rfl⟩
theorem lN_subT {a b : Nat} (ha : a < 2 ^ 62) (hb : b < 2 ^ 62) : (lN a - lN b).toInt = (a : Int) - b := by
  rw [Int64.toInt_sub, pk_lT (by omega), pk_lT (by omega)]
  exact Int.bmod_eq_of_le (by omega) (by omega)
theorem lN_neg {a b : Nat} (h : a < b) (hb : b < 2 ^ 62) : lN a - lN b ≤ lN 0 := by
  rw [Int64.le_iff_toInt_le, lN_subT (by omega) hb, pk_lT (by omega)]; omega
theorem lN_pos {a : Nat} (h : 1 ≤ a) (ha : a < 2 ^ 63) : ¬ lN a ≤ lN 0 := by
  rw [pk_lLE ha (by omega)]; omega
