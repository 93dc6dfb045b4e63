theorem ev_at (i : Nat) {w : Cond} (h : lw_tbl[i]? = some w) (hg : goodWord w = true) : w ∈ ev_T := List.mem_filter.mpr ⟨List.mem_of_getElem? h, hg⟩
theorem ev_sub {ws : List Cond} (h : ws.all (fun w => decide (w ∈ lw_tbl) && goodWord w) = true) : ∀ w ∈ ws, w ∈ ev_T := fun w hw => by
  have h1 := List.all_eq_true.mp h w hw
  simp only [Bool.and_eq_true, decide_eq_true_eq] at h1
  exact List.mem_filter.mpr ⟨h1.1, h1.2⟩
theorem inBy : ∀ w ∈ u_ws "BatchLinks$Bytes" TBy 2, w ∈ ev_T := ev_sub (by decide +kernel)
theorem tBy_0 : ev_fty 0 0 (.array .int) true "BatchLinks$Bytes" := ⟨_, _, _, tyBy, rfl, okBy, nmBy, by decide +kernel, rfl, rfl⟩
theorem tBy_1 : ev_fty 0 1 (.int) false "BatchLinks$Bytes" := ⟨_, _, _, tyBy, rfl, okBy, nmBy, by decide +kernel, rfl, rfl⟩
theorem inLa : ∀ w ∈ u_ws "BatchLinks$Layers" TLa 3, w ∈ ev_T := ev_sub (by decide +kernel)
theorem tLa_0 : ev_fty 1 0 (.array .int) true "BatchLinks$Layers" := ⟨_, _, _, tyLa, rfl, okLa, nmLa, by decide +kernel, rfl, rfl⟩
theorem tLa_1 : ev_fty 1 1 (.array .long) true "BatchLinks$Layers" := ⟨_, _, _, tyLa, rfl, okLa, nmLa, by decide +kernel, rfl, rfl⟩
theorem tLa_2 : ev_fty 1 2 (.int) false "BatchLinks$Layers" := ⟨_, _, _, tyLa, rfl, okLa, nmLa, by decide +kernel, rfl, rfl⟩
theorem inLe : ∀ w ∈ u_ws "BatchLinks$Ledger" TLe 6, w ∈ ev_T := ev_sub (by decide +kernel)
theorem tLe_0 : ev_fty 2 0 (.array .int) true "BatchLinks$Ledger" := ⟨_, _, _, tyLe, rfl, okLe, nmLe, by decide +kernel, rfl, rfl⟩
theorem tLe_1 : ev_fty 2 1 (.int) false "BatchLinks$Ledger" := ⟨_, _, _, tyLe, rfl, okLe, nmLe, by decide +kernel, rfl, rfl⟩
theorem tLe_2 : ev_fty 2 2 (.array .int) true "BatchLinks$Ledger" := ⟨_, _, _, tyLe, rfl, okLe, nmLe, by decide +kernel, rfl, rfl⟩
theorem tLe_3 : ev_fty 2 3 (.array .int) true "BatchLinks$Ledger" := ⟨_, _, _, tyLe, rfl, okLe, nmLe, by decide +kernel, rfl, rfl⟩
theorem tLe_4 : ev_fty 2 4 (.array .long) true "BatchLinks$Ledger" := ⟨_, _, _, tyLe, rfl, okLe, nmLe, by decide +kernel, rfl, rfl⟩
theorem tLe_5 : ev_fty 2 5 (.int) false "BatchLinks$Ledger" := ⟨_, _, _, tyLe, rfl, okLe, nmLe, by decide +kernel, rfl, rfl⟩
theorem inNa : ∀ w ∈ u_ws "BatchLinks$Tape" TNa 3, w ∈ ev_T := ev_sub (by decide +kernel)
theorem tNa_0 : ev_fty 3 0 (.object "BatchLinks$Bytes") true "BatchLinks$Tape" := ⟨_, _, _, tyNa, rfl, okNa, nmNa, by decide +kernel, rfl, rfl⟩
theorem tNa_1 : ev_fty 3 1 (.int) false "BatchLinks$Tape" := ⟨_, _, _, tyNa, rfl, okNa, nmNa, by decide +kernel, rfl, rfl⟩
theorem tNa_2 : ev_fty 3 2 (.int) false "BatchLinks$Tape" := ⟨_, _, _, tyNa, rfl, okNa, nmNa, by decide +kernel, rfl, rfl⟩
theorem inRu : ∀ w ∈ u_ws "BatchLinks$Rules" TRu 5, w ∈ ev_T := ev_sub (by decide +kernel)
theorem tRu_0 : ev_fty 4 0 (.array .int) true "BatchLinks$Rules" := ⟨_, _, _, tyRu, rfl, okRu, nmRu, by decide +kernel, rfl, rfl⟩
theorem tRu_1 : ev_fty 4 1 (.array .int) true "BatchLinks$Rules" := ⟨_, _, _, tyRu, rfl, okRu, nmRu, by decide +kernel, rfl, rfl⟩
theorem tRu_2 : ev_fty 4 2 (.array .int) true "BatchLinks$Rules" := ⟨_, _, _, tyRu, rfl, okRu, nmRu, by decide +kernel, rfl, rfl⟩
theorem tRu_3 : ev_fty 4 3 (.array .int) true "BatchLinks$Rules" := ⟨_, _, _, tyRu, rfl, okRu, nmRu, by decide +kernel, rfl, rfl⟩
theorem tRu_4 : ev_fty 4 4 (.int) false "BatchLinks$Rules" := ⟨_, _, _, tyRu, rfl, okRu, nmRu, by decide +kernel, rfl, rfl⟩
theorem inTa : ∀ w ∈ u_ws "BatchLinks$Tally" TTa 1, w ∈ ev_T := ev_sub (by decide +kernel)
theorem tTa_0 : ev_fty 5 0 (.array .int) true "BatchLinks$Tally" := ⟨_, _, _, tyTa, rfl, okTa, nmTa, by decide +kernel, rfl, rfl⟩
theorem inTh : ∀ w ∈ u_ws "BatchLinks$Thing" TTh 8, w ∈ ev_T := ev_sub (by decide +kernel)
theorem tTh_0 : ev_fty 6 0 (.int) true "BatchLinks$Thing" := ⟨_, _, _, tyTh, rfl, okTh, nmTh, by decide +kernel, rfl, rfl⟩
theorem tTh_1 : ev_fty 6 1 (.int) true "BatchLinks$Thing" := ⟨_, _, _, tyTh, rfl, okTh, nmTh, by decide +kernel, rfl, rfl⟩
theorem tTh_2 : ev_fty 6 2 (.int) true "BatchLinks$Thing" := ⟨_, _, _, tyTh, rfl, okTh, nmTh, by decide +kernel, rfl, rfl⟩
theorem tTh_3 : ev_fty 6 3 (.object "BatchLinks$Layers") true "BatchLinks$Thing" := ⟨_, _, _, tyTh, rfl, okTh, nmTh, by decide +kernel, rfl, rfl⟩
theorem tTh_4 : ev_fty 6 4 (.long) false "BatchLinks$Thing" := ⟨_, _, _, tyTh, rfl, okTh, nmTh, by decide +kernel, rfl, rfl⟩
theorem tTh_5 : ev_fty 6 5 (.long) false "BatchLinks$Thing" := ⟨_, _, _, tyTh, rfl, okTh, nmTh, by decide +kernel, rfl, rfl⟩
theorem tTh_6 : ev_fty 6 6 (.boolean) false "BatchLinks$Thing" := ⟨_, _, _, tyTh, rfl, okTh, nmTh, by decide +kernel, rfl, rfl⟩
theorem tTh_7 : ev_fty 6 7 (.int) false "BatchLinks$Thing" := ⟨_, _, _, tyTh, rfl, okTh, nmTh, by decide +kernel, rfl, rfl⟩
theorem inBL : ∀ w ∈ u_ws "BatchLinks" TBL 9, w ∈ ev_T := ev_sub (by decide +kernel)
theorem tBL_0 : ev_fty 7 0 (.array (.object "BatchLinks$Thing")) true "BatchLinks" := ⟨_, _, _, tyBL, rfl, okBL, nmBL, by decide +kernel, rfl, rfl⟩
theorem tBL_1 : ev_fty 7 1 (.int) false "BatchLinks" := ⟨_, _, _, tyBL, rfl, okBL, nmBL, by decide +kernel, rfl, rfl⟩
theorem tBL_2 : ev_fty 7 2 (.object "BatchLinks$Tally") true "BatchLinks" := ⟨_, _, _, tyBL, rfl, okBL, nmBL, by decide +kernel, rfl, rfl⟩
theorem tBL_3 : ev_fty 7 3 (.object "BatchLinks$Tally") true "BatchLinks" := ⟨_, _, _, tyBL, rfl, okBL, nmBL, by decide +kernel, rfl, rfl⟩
theorem tBL_4 : ev_fty 7 4 (.object "BatchLinks$Tape") true "BatchLinks" := ⟨_, _, _, tyBL, rfl, okBL, nmBL, by decide +kernel, rfl, rfl⟩
theorem tBL_5 : ev_fty 7 5 (.object "BatchLinks$Rules") false "BatchLinks" := ⟨_, _, _, tyBL, rfl, okBL, nmBL, by decide +kernel, rfl, rfl⟩
theorem tBL_6 : ev_fty 7 6 (.object "BatchLinks$Rules") false "BatchLinks" := ⟨_, _, _, tyBL, rfl, okBL, nmBL, by decide +kernel, rfl, rfl⟩
theorem tBL_7 : ev_fty 7 7 (.object "BatchLinks$Ledger") true "BatchLinks" := ⟨_, _, _, tyBL, rfl, okBL, nmBL, by decide +kernel, rfl, rfl⟩
theorem tBL_8 : ev_fty 7 8 (.object "BatchLinks$Bytes") true "BatchLinks" := ⟨_, _, _, tyBL, rfl, okBL, nmBL, by decide +kernel, rfl, rfl⟩
theorem inMo : ∀ w ∈ u_ws "BatchLinksModel" TMo 36, w ∈ ev_T := ev_sub (by decide +kernel)
theorem tMo_0 : ev_fty 8 0 (.int) false "BatchLinksModel" := ⟨_, _, _, tyMo, rfl, okMo, nmMo, by decide +kernel, rfl, rfl⟩
theorem tMo_1 : ev_fty 8 1 (.array .int) true "BatchLinksModel" := ⟨_, _, _, tyMo, rfl, okMo, nmMo, by decide +kernel, rfl, rfl⟩
theorem tMo_2 : ev_fty 8 2 (.array .int) true "BatchLinksModel" := ⟨_, _, _, tyMo, rfl, okMo, nmMo, by decide +kernel, rfl, rfl⟩
theorem tMo_3 : ev_fty 8 3 (.array .int) true "BatchLinksModel" := ⟨_, _, _, tyMo, rfl, okMo, nmMo, by decide +kernel, rfl, rfl⟩
theorem tMo_4 : ev_fty 8 4 (.array .long) true "BatchLinksModel" := ⟨_, _, _, tyMo, rfl, okMo, nmMo, by decide +kernel, rfl, rfl⟩
theorem tMo_5 : ev_fty 8 5 (.array .long) true "BatchLinksModel" := ⟨_, _, _, tyMo, rfl, okMo, nmMo, by decide +kernel, rfl, rfl⟩
theorem tMo_6 : ev_fty 8 6 (.array .boolean) true "BatchLinksModel" := ⟨_, _, _, tyMo, rfl, okMo, nmMo, by decide +kernel, rfl, rfl⟩
theorem tMo_7 : ev_fty 8 7 (.array .int) true "BatchLinksModel" := ⟨_, _, _, tyMo, rfl, okMo, nmMo, by decide +kernel, rfl, rfl⟩
theorem tMo_8 : ev_fty 8 8 (.array .int) true "BatchLinksModel" := ⟨_, _, _, tyMo, rfl, okMo, nmMo, by decide +kernel, rfl, rfl⟩
theorem tMo_9 : ev_fty 8 9 (.array .int) true "BatchLinksModel" := ⟨_, _, _, tyMo, rfl, okMo, nmMo, by decide +kernel, rfl, rfl⟩
theorem tMo_10 : ev_fty 8 10 (.array .long) true "BatchLinksModel" := ⟨_, _, _, tyMo, rfl, okMo, nmMo, by decide +kernel, rfl, rfl⟩
theorem tMo_11 : ev_fty 8 11 (.int) false "BatchLinksModel" := ⟨_, _, _, tyMo, rfl, okMo, nmMo, by decide +kernel, rfl, rfl⟩
theorem tMo_12 : ev_fty 8 12 (.array .int) true "BatchLinksModel" := ⟨_, _, _, tyMo, rfl, okMo, nmMo, by decide +kernel, rfl, rfl⟩
theorem tMo_13 : ev_fty 8 13 (.array .long) true "BatchLinksModel" := ⟨_, _, _, tyMo, rfl, okMo, nmMo, by decide +kernel, rfl, rfl⟩
theorem tMo_14 : ev_fty 8 14 (.int) false "BatchLinksModel" := ⟨_, _, _, tyMo, rfl, okMo, nmMo, by decide +kernel, rfl, rfl⟩
theorem tMo_15 : ev_fty 8 15 (.array .int) true "BatchLinksModel" := ⟨_, _, _, tyMo, rfl, okMo, nmMo, by decide +kernel, rfl, rfl⟩
theorem tMo_16 : ev_fty 8 16 (.int) false "BatchLinksModel" := ⟨_, _, _, tyMo, rfl, okMo, nmMo, by decide +kernel, rfl, rfl⟩
theorem tMo_17 : ev_fty 8 17 (.array .int) true "BatchLinksModel" := ⟨_, _, _, tyMo, rfl, okMo, nmMo, by decide +kernel, rfl, rfl⟩
theorem tMo_18 : ev_fty 8 18 (.array .int) true "BatchLinksModel" := ⟨_, _, _, tyMo, rfl, okMo, nmMo, by decide +kernel, rfl, rfl⟩
theorem tMo_19 : ev_fty 8 19 (.array .int) true "BatchLinksModel" := ⟨_, _, _, tyMo, rfl, okMo, nmMo, by decide +kernel, rfl, rfl⟩
theorem tMo_20 : ev_fty 8 20 (.array .int) true "BatchLinksModel" := ⟨_, _, _, tyMo, rfl, okMo, nmMo, by decide +kernel, rfl, rfl⟩
theorem tMo_21 : ev_fty 8 21 (.int) false "BatchLinksModel" := ⟨_, _, _, tyMo, rfl, okMo, nmMo, by decide +kernel, rfl, rfl⟩
theorem tMo_22 : ev_fty 8 22 (.array .int) true "BatchLinksModel" := ⟨_, _, _, tyMo, rfl, okMo, nmMo, by decide +kernel, rfl, rfl⟩
theorem tMo_23 : ev_fty 8 23 (.array .int) true "BatchLinksModel" := ⟨_, _, _, tyMo, rfl, okMo, nmMo, by decide +kernel, rfl, rfl⟩
theorem tMo_24 : ev_fty 8 24 (.array .int) true "BatchLinksModel" := ⟨_, _, _, tyMo, rfl, okMo, nmMo, by decide +kernel, rfl, rfl⟩
theorem tMo_25 : ev_fty 8 25 (.array .int) true "BatchLinksModel" := ⟨_, _, _, tyMo, rfl, okMo, nmMo, by decide +kernel, rfl, rfl⟩
theorem tMo_26 : ev_fty 8 26 (.int) false "BatchLinksModel" := ⟨_, _, _, tyMo, rfl, okMo, nmMo, by decide +kernel, rfl, rfl⟩
theorem tMo_27 : ev_fty 8 27 (.int) false "BatchLinksModel" := ⟨_, _, _, tyMo, rfl, okMo, nmMo, by decide +kernel, rfl, rfl⟩
theorem tMo_28 : ev_fty 8 28 (.int) false "BatchLinksModel" := ⟨_, _, _, tyMo, rfl, okMo, nmMo, by decide +kernel, rfl, rfl⟩
theorem tMo_29 : ev_fty 8 29 (.array .int) true "BatchLinksModel" := ⟨_, _, _, tyMo, rfl, okMo, nmMo, by decide +kernel, rfl, rfl⟩
theorem tMo_30 : ev_fty 8 30 (.int) false "BatchLinksModel" := ⟨_, _, _, tyMo, rfl, okMo, nmMo, by decide +kernel, rfl, rfl⟩
theorem tMo_31 : ev_fty 8 31 (.array .int) true "BatchLinksModel" := ⟨_, _, _, tyMo, rfl, okMo, nmMo, by decide +kernel, rfl, rfl⟩
theorem tMo_32 : ev_fty 8 32 (.array .int) true "BatchLinksModel" := ⟨_, _, _, tyMo, rfl, okMo, nmMo, by decide +kernel, rfl, rfl⟩
theorem tMo_33 : ev_fty 8 33 (.array .long) true "BatchLinksModel" := ⟨_, _, _, tyMo, rfl, okMo, nmMo, by decide +kernel, rfl, rfl⟩
theorem tMo_34 : ev_fty 8 34 (.int) false "BatchLinksModel" := ⟨_, _, _, tyMo, rfl, okMo, nmMo, by decide +kernel, rfl, rfl⟩
theorem tMo_35 : ev_fty 8 35 (.array .int) true "BatchLinksModel" := ⟨_, _, _, tyMo, rfl, okMo, nmMo, by decide +kernel, rfl, rfl⟩
theorem fBL_11 : ev_fld "BatchLinks" 11 7 0 := ⟨_, _, _, rfl, by decide, ev_at 152 (by decide +kernel) (by decide +kernel), inBL⟩
theorem fBL_15 : ev_fld "BatchLinks" 15 7 1 := ⟨_, _, _, rfl, by decide, ev_at 153 (by decide +kernel) (by decide +kernel), inBL⟩
theorem fBL_22 : ev_fld "BatchLinks" 22 7 2 := ⟨_, _, _, rfl, by decide, ev_at 154 (by decide +kernel) (by decide +kernel), inBL⟩
theorem fBL_26 : ev_fld "BatchLinks" 26 7 3 := ⟨_, _, _, rfl, by decide, ev_at 155 (by decide +kernel) (by decide +kernel), inBL⟩
theorem fBL_32 : ev_fld "BatchLinks" 32 7 4 := ⟨_, _, _, rfl, by decide, ev_at 156 (by decide +kernel) (by decide +kernel), inBL⟩
theorem fBL_39 : ev_fld "BatchLinks" 39 7 5 := ⟨_, _, _, rfl, by decide, ev_at 157 (by decide +kernel) (by decide +kernel), inBL⟩
theorem fBL_43 : ev_fld "BatchLinks" 43 7 6 := ⟨_, _, _, rfl, by decide, ev_at 158 (by decide +kernel) (by decide +kernel), inBL⟩
theorem fBL_49 : ev_fld "BatchLinks" 49 7 7 := ⟨_, _, _, rfl, by decide, ev_at 159 (by decide +kernel) (by decide +kernel), inBL⟩
theorem fBL_58 : ev_fld "BatchLinks" 58 7 8 := ⟨_, _, _, rfl, by decide, ev_at 160 (by decide +kernel) (by decide +kernel), inBL⟩
theorem fBL_78 : ev_fld "BatchLinks" 78 6 4 := ⟨_, _, _, rfl, by decide, ev_at 224 (by decide +kernel) (by decide +kernel), inTh⟩
theorem fBL_82 : ev_fld "BatchLinks" 82 6 3 := ⟨_, _, _, rfl, by decide, ev_at 223 (by decide +kernel) (by decide +kernel), inTh⟩
theorem fBL_100 : ev_fld "BatchLinks" 100 6 0 := ⟨_, _, _, rfl, by decide, ev_at 218 (by decide +kernel) (by decide +kernel), inTh⟩
theorem fBL_103 : ev_fld "BatchLinks" 103 6 6 := ⟨_, _, _, rfl, by decide, ev_at 229 (by decide +kernel) (by decide +kernel), inTh⟩
theorem fBL_128 : ev_fld "BatchLinks" 128 6 5 := ⟨_, _, _, rfl, by decide, ev_at 227 (by decide +kernel) (by decide +kernel), inTh⟩
theorem fBL_190 : ev_fld "BatchLinks" 190 6 1 := ⟨_, _, _, rfl, by decide, ev_at 220 (by decide +kernel) (by decide +kernel), inTh⟩
theorem fBL_220 : ev_fld "BatchLinks" 220 6 7 := ⟨_, _, _, rfl, by decide, ev_at 231 (by decide +kernel) (by decide +kernel), inTh⟩
theorem fBy_15 : ev_fld "BatchLinks$Bytes" 15 0 0 := ⟨_, _, _, rfl, by decide, ev_at 85 (by decide +kernel) (by decide +kernel), inBy⟩
theorem fBy_21 : ev_fld "BatchLinks$Bytes" 21 0 1 := ⟨_, _, _, rfl, by decide, ev_at 86 (by decide +kernel) (by decide +kernel), inBy⟩
theorem fLa_9 : ev_fld "BatchLinks$Layers" 9 1 0 := ⟨_, _, _, rfl, by decide, ev_at 207 (by decide +kernel) (by decide +kernel), inLa⟩
theorem fLa_15 : ev_fld "BatchLinks$Layers" 15 1 1 := ⟨_, _, _, rfl, by decide, ev_at 208 (by decide +kernel) (by decide +kernel), inLa⟩
theorem fLa_19 : ev_fld "BatchLinks$Layers" 19 1 2 := ⟨_, _, _, rfl, by decide, ev_at 209 (by decide +kernel) (by decide +kernel), inLa⟩
theorem fLe_11 : ev_fld "BatchLinks$Ledger" 11 2 0 := ⟨_, _, _, rfl, by decide, ev_at 130 (by decide +kernel) (by decide +kernel), inLe⟩
theorem fLe_15 : ev_fld "BatchLinks$Ledger" 15 2 2 := ⟨_, _, _, rfl, by decide, ev_at 132 (by decide +kernel) (by decide +kernel), inLe⟩
theorem fLe_18 : ev_fld "BatchLinks$Ledger" 18 2 3 := ⟨_, _, _, rfl, by decide, ev_at 133 (by decide +kernel) (by decide +kernel), inLe⟩
theorem fLe_21 : ev_fld "BatchLinks$Ledger" 21 2 4 := ⟨_, _, _, rfl, by decide, ev_at 134 (by decide +kernel) (by decide +kernel), inLe⟩
theorem fLe_25 : ev_fld "BatchLinks$Ledger" 25 2 1 := ⟨_, _, _, rfl, by decide, ev_at 131 (by decide +kernel) (by decide +kernel), inLe⟩
theorem fLe_29 : ev_fld "BatchLinks$Ledger" 29 2 5 := ⟨_, _, _, rfl, by decide, ev_at 135 (by decide +kernel) (by decide +kernel), inLe⟩
theorem fRu_11 : ev_fld "BatchLinks$Rules" 11 4 0 := ⟨_, _, _, rfl, by decide, ev_at 108 (by decide +kernel) (by decide +kernel), inRu⟩
theorem fRu_15 : ev_fld "BatchLinks$Rules" 15 4 1 := ⟨_, _, _, rfl, by decide, ev_at 109 (by decide +kernel) (by decide +kernel), inRu⟩
theorem fRu_18 : ev_fld "BatchLinks$Rules" 18 4 2 := ⟨_, _, _, rfl, by decide, ev_at 110 (by decide +kernel) (by decide +kernel), inRu⟩
theorem fRu_21 : ev_fld "BatchLinks$Rules" 21 4 3 := ⟨_, _, _, rfl, by decide, ev_at 111 (by decide +kernel) (by decide +kernel), inRu⟩
theorem fRu_24 : ev_fld "BatchLinks$Rules" 24 4 4 := ⟨_, _, _, rfl, by decide, ev_at 112 (by decide +kernel) (by decide +kernel), inRu⟩
theorem fTa_11 : ev_fld "BatchLinks$Tally" 11 5 0 := ⟨_, _, _, rfl, by decide, ev_at 65 (by decide +kernel) (by decide +kernel), inTa⟩
theorem fNa_16 : ev_fld "BatchLinks$Tape" 16 3 0 := ⟨_, _, _, rfl, by decide, ev_at 92 (by decide +kernel) (by decide +kernel), inNa⟩
theorem fNa_27 : ev_fld "BatchLinks$Tape" 27 3 1 := ⟨_, _, _, rfl, by decide, ev_at 93 (by decide +kernel) (by decide +kernel), inNa⟩
theorem fNa_31 : ev_fld "BatchLinks$Tape" 31 3 2 := ⟨_, _, _, rfl, by decide, ev_at 94 (by decide +kernel) (by decide +kernel), inNa⟩
theorem fTh_9 : ev_fld "BatchLinks$Thing" 9 6 0 := ⟨_, _, _, rfl, by decide, ev_at 217 (by decide +kernel) (by decide +kernel), inTh⟩
theorem fTh_15 : ev_fld "BatchLinks$Thing" 15 6 1 := ⟨_, _, _, rfl, by decide, ev_at 219 (by decide +kernel) (by decide +kernel), inTh⟩
theorem fTh_18 : ev_fld "BatchLinks$Thing" 18 6 2 := ⟨_, _, _, rfl, by decide, ev_at 221 (by decide +kernel) (by decide +kernel), inTh⟩
theorem fTh_24 : ev_fld "BatchLinks$Thing" 24 6 3 := ⟨_, _, _, rfl, by decide, ev_at 222 (by decide +kernel) (by decide +kernel), inTh⟩
theorem fTh_36 : ev_fld "BatchLinks$Thing" 36 6 7 := ⟨_, _, _, rfl, by decide, ev_at 230 (by decide +kernel) (by decide +kernel), inTh⟩
theorem fTh_53 : ev_fld "BatchLinks$Thing" 53 6 5 := ⟨_, _, _, rfl, by decide, ev_at 226 (by decide +kernel) (by decide +kernel), inTh⟩
theorem fTh_57 : ev_fld "BatchLinks$Thing" 57 6 6 := ⟨_, _, _, rfl, by decide, ev_at 228 (by decide +kernel) (by decide +kernel), inTh⟩
theorem fTh_61 : ev_fld "BatchLinks$Thing" 61 6 4 := ⟨_, _, _, rfl, by decide, ev_at 225 (by decide +kernel) (by decide +kernel), inTh⟩
theorem fMo_7 : ev_fld "BatchLinksModel" 7 8 1 := ⟨_, _, _, rfl, by decide, ev_at 598 (by decide +kernel) (by decide +kernel), inMo⟩
theorem fMo_13 : ev_fld "BatchLinksModel" 13 8 2 := ⟨_, _, _, rfl, by decide, ev_at 599 (by decide +kernel) (by decide +kernel), inMo⟩
theorem fMo_16 : ev_fld "BatchLinksModel" 16 8 3 := ⟨_, _, _, rfl, by decide, ev_at 600 (by decide +kernel) (by decide +kernel), inMo⟩
theorem fMo_19 : ev_fld "BatchLinksModel" 19 8 4 := ⟨_, _, _, rfl, by decide, ev_at 601 (by decide +kernel) (by decide +kernel), inMo⟩
theorem fMo_23 : ev_fld "BatchLinksModel" 23 8 5 := ⟨_, _, _, rfl, by decide, ev_at 602 (by decide +kernel) (by decide +kernel), inMo⟩
theorem fMo_26 : ev_fld "BatchLinksModel" 26 8 6 := ⟨_, _, _, rfl, by decide, ev_at 603 (by decide +kernel) (by decide +kernel), inMo⟩
theorem fMo_30 : ev_fld "BatchLinksModel" 30 8 7 := ⟨_, _, _, rfl, by decide, ev_at 604 (by decide +kernel) (by decide +kernel), inMo⟩
theorem fMo_33 : ev_fld "BatchLinksModel" 33 8 8 := ⟨_, _, _, rfl, by decide, ev_at 605 (by decide +kernel) (by decide +kernel), inMo⟩
theorem fMo_36 : ev_fld "BatchLinksModel" 36 8 9 := ⟨_, _, _, rfl, by decide, ev_at 606 (by decide +kernel) (by decide +kernel), inMo⟩
theorem fMo_39 : ev_fld "BatchLinksModel" 39 8 10 := ⟨_, _, _, rfl, by decide, ev_at 607 (by decide +kernel) (by decide +kernel), inMo⟩
theorem fMo_42 : ev_fld "BatchLinksModel" 42 8 12 := ⟨_, _, _, rfl, by decide, ev_at 609 (by decide +kernel) (by decide +kernel), inMo⟩
theorem fMo_45 : ev_fld "BatchLinksModel" 45 8 13 := ⟨_, _, _, rfl, by decide, ev_at 610 (by decide +kernel) (by decide +kernel), inMo⟩
theorem fMo_48 : ev_fld "BatchLinksModel" 48 8 15 := ⟨_, _, _, rfl, by decide, ev_at 612 (by decide +kernel) (by decide +kernel), inMo⟩
theorem fMo_51 : ev_fld "BatchLinksModel" 51 8 17 := ⟨_, _, _, rfl, by decide, ev_at 614 (by decide +kernel) (by decide +kernel), inMo⟩
theorem fMo_54 : ev_fld "BatchLinksModel" 54 8 18 := ⟨_, _, _, rfl, by decide, ev_at 615 (by decide +kernel) (by decide +kernel), inMo⟩
theorem fMo_57 : ev_fld "BatchLinksModel" 57 8 19 := ⟨_, _, _, rfl, by decide, ev_at 616 (by decide +kernel) (by decide +kernel), inMo⟩
theorem fMo_60 : ev_fld "BatchLinksModel" 60 8 20 := ⟨_, _, _, rfl, by decide, ev_at 617 (by decide +kernel) (by decide +kernel), inMo⟩
theorem fMo_63 : ev_fld "BatchLinksModel" 63 8 22 := ⟨_, _, _, rfl, by decide, ev_at 619 (by decide +kernel) (by decide +kernel), inMo⟩
theorem fMo_66 : ev_fld "BatchLinksModel" 66 8 23 := ⟨_, _, _, rfl, by decide, ev_at 620 (by decide +kernel) (by decide +kernel), inMo⟩
theorem fMo_69 : ev_fld "BatchLinksModel" 69 8 24 := ⟨_, _, _, rfl, by decide, ev_at 621 (by decide +kernel) (by decide +kernel), inMo⟩
theorem fMo_72 : ev_fld "BatchLinksModel" 72 8 25 := ⟨_, _, _, rfl, by decide, ev_at 622 (by decide +kernel) (by decide +kernel), inMo⟩
theorem fMo_75 : ev_fld "BatchLinksModel" 75 8 29 := ⟨_, _, _, rfl, by decide, ev_at 626 (by decide +kernel) (by decide +kernel), inMo⟩
theorem fMo_78 : ev_fld "BatchLinksModel" 78 8 31 := ⟨_, _, _, rfl, by decide, ev_at 628 (by decide +kernel) (by decide +kernel), inMo⟩
theorem fMo_81 : ev_fld "BatchLinksModel" 81 8 32 := ⟨_, _, _, rfl, by decide, ev_at 629 (by decide +kernel) (by decide +kernel), inMo⟩
theorem fMo_84 : ev_fld "BatchLinksModel" 84 8 33 := ⟨_, _, _, rfl, by decide, ev_at 630 (by decide +kernel) (by decide +kernel), inMo⟩
theorem fMo_87 : ev_fld "BatchLinksModel" 87 8 35 := ⟨_, _, _, rfl, by decide, ev_at 632 (by decide +kernel) (by decide +kernel), inMo⟩
theorem fMo_90 : ev_fld "BatchLinksModel" 90 8 0 := ⟨_, _, _, rfl, by decide, ev_at 597 (by decide +kernel) (by decide +kernel), inMo⟩
theorem fMo_105 : ev_fld "BatchLinksModel" 105 8 11 := ⟨_, _, _, rfl, by decide, ev_at 608 (by decide +kernel) (by decide +kernel), inMo⟩
theorem fMo_148 : ev_fld "BatchLinksModel" 148 8 14 := ⟨_, _, _, rfl, by decide, ev_at 611 (by decide +kernel) (by decide +kernel), inMo⟩
theorem fMo_151 : ev_fld "BatchLinksModel" 151 8 26 := ⟨_, _, _, rfl, by decide, ev_at 623 (by decide +kernel) (by decide +kernel), inMo⟩
theorem fMo_154 : ev_fld "BatchLinksModel" 154 8 27 := ⟨_, _, _, rfl, by decide, ev_at 624 (by decide +kernel) (by decide +kernel), inMo⟩
theorem fMo_164 : ev_fld "BatchLinksModel" 164 8 21 := ⟨_, _, _, rfl, by decide, ev_at 618 (by decide +kernel) (by decide +kernel), inMo⟩
theorem fMo_175 : ev_fld "BatchLinksModel" 175 8 16 := ⟨_, _, _, rfl, by decide, ev_at 613 (by decide +kernel) (by decide +kernel), inMo⟩
theorem fMo_178 : ev_fld "BatchLinksModel" 178 8 28 := ⟨_, _, _, rfl, by decide, ev_at 625 (by decide +kernel) (by decide +kernel), inMo⟩
theorem fMo_181 : ev_fld "BatchLinksModel" 181 8 30 := ⟨_, _, _, rfl, by decide, ev_at 627 (by decide +kernel) (by decide +kernel), inMo⟩
theorem fMo_195 : ev_fld "BatchLinksModel" 195 8 34 := ⟨_, _, _, rfl, by decide, ev_at 631 (by decide +kernel) (by decide +kernel), inMo⟩
theorem nBL_9 : ev_cls "BatchLinks" 9 6 8 [.int 0, .int 0, .int 0, .null, .long 0, .long 0, .int 0, .int 0] := ⟨_, _, tyTh, rfl, okTh, by decide +kernel, ev_at 57 (by decide +kernel) (by decide +kernel), ev_at 196 (by decide +kernel) (by decide +kernel), ev_at 47 (by decide +kernel) (by decide +kernel), inTh⟩
theorem cBL_9 : Cond.classLink "BatchLinks" 9 "BatchLinks$Thing" ∈ ev_T := ev_at 57 (by decide +kernel) (by decide +kernel)
theorem nBL_19 : ev_cls "BatchLinks" 19 5 1 [.null] := ⟨_, _, tyTa, rfl, okTa, by decide +kernel, ev_at 59 (by decide +kernel) (by decide +kernel), ev_at 60 (by decide +kernel) (by decide +kernel), ev_at 40 (by decide +kernel) (by decide +kernel), inTa⟩
theorem cBL_19 : Cond.classLink "BatchLinks" 19 "BatchLinks$Tally" ∈ ev_T := ev_at 59 (by decide +kernel) (by decide +kernel)
theorem nBL_29 : ev_cls "BatchLinks" 29 3 3 [.null, .int 0, .int 0] := ⟨_, _, tyNa, rfl, okNa, by decide +kernel, ev_at 70 (by decide +kernel) (by decide +kernel), ev_at 71 (by decide +kernel) (by decide +kernel), ev_at 41 (by decide +kernel) (by decide +kernel), inNa⟩
theorem cBL_29 : Cond.classLink "BatchLinks" 29 "BatchLinks$Tape" ∈ ev_T := ev_at 70 (by decide +kernel) (by decide +kernel)
theorem nBL_36 : ev_cls "BatchLinks" 36 4 5 [.null, .null, .null, .null, .int 0] := ⟨_, _, tyRu, rfl, okRu, by decide +kernel, ev_at 102 (by decide +kernel) (by decide +kernel), ev_at 103 (by decide +kernel) (by decide +kernel), ev_at 44 (by decide +kernel) (by decide +kernel), inRu⟩
theorem cBL_36 : Cond.classLink "BatchLinks" 36 "BatchLinks$Rules" ∈ ev_T := ev_at 102 (by decide +kernel) (by decide +kernel)
theorem nBL_46 : ev_cls "BatchLinks" 46 2 6 [.null, .int 0, .null, .null, .null, .int 0] := ⟨_, _, tyLe, rfl, okLe, by decide +kernel, ev_at 124 (by decide +kernel) (by decide +kernel), ev_at 125 (by decide +kernel) (by decide +kernel), ev_at 45 (by decide +kernel) (by decide +kernel), inLe⟩
theorem cBL_46 : Cond.classLink "BatchLinks" 46 "BatchLinks$Ledger" ∈ ev_T := ev_at 124 (by decide +kernel) (by decide +kernel)
theorem nBL_53 : ev_cls "BatchLinks" 53 0 2 [.null, .int 0] := ⟨_, _, tyBy, rfl, okBy, by decide +kernel, ev_at 150 (by decide +kernel) (by decide +kernel), ev_at 77 (by decide +kernel) (by decide +kernel), ev_at 42 (by decide +kernel) (by decide +kernel), inBy⟩
theorem cBL_53 : Cond.classLink "BatchLinks" 53 "BatchLinks$Bytes" ∈ ev_T := ev_at 150 (by decide +kernel) (by decide +kernel)
theorem nNa_9 : ev_cls "BatchLinks$Tape" 9 0 2 [.null, .int 0] := ⟨_, _, tyBy, rfl, okBy, by decide +kernel, ev_at 76 (by decide +kernel) (by decide +kernel), ev_at 77 (by decide +kernel) (by decide +kernel), ev_at 42 (by decide +kernel) (by decide +kernel), inBy⟩
theorem cNa_9 : Cond.classLink "BatchLinks$Tape" 9 "BatchLinks$Bytes" ∈ ev_T := ev_at 76 (by decide +kernel) (by decide +kernel)
theorem nTh_21 : ev_cls "BatchLinks$Thing" 21 1 3 [.null, .null, .int 0] := ⟨_, _, tyLa, rfl, okLa, by decide +kernel, ev_at 201 (by decide +kernel) (by decide +kernel), ev_at 202 (by decide +kernel) (by decide +kernel), ev_at 48 (by decide +kernel) (by decide +kernel), inLa⟩
theorem cTh_21 : Cond.classLink "BatchLinks$Thing" 21 "BatchLinks$Layers" ∈ ev_T := ev_at 201 (by decide +kernel) (by decide +kernel)
theorem nLw_7 : ev_cls "BatchLinksLaw" 7 7 9 [.null, .int 0, .null, .null, .null, .null, .null, .null, .null] := ⟨_, _, tyBL, rfl, okBL, by decide +kernel, ev_at 49 (by decide +kernel) (by decide +kernel), ev_at 50 (by decide +kernel) (by decide +kernel), ev_at 39 (by decide +kernel) (by decide +kernel), inBL⟩
theorem cLw_7 : Cond.classLink "BatchLinksLaw" 7 "BatchLinks" ∈ ev_T := ev_at 49 (by decide +kernel) (by decide +kernel)
theorem nLw_10 : ev_cls "BatchLinksLaw" 10 8 36 [.int 0, .null, .null, .null, .null, .null, .null, .null, .null, .null, .null, .int 0, .null, .null, .int 0, .null, .int 0, .null, .null, .null, .null, .int 0, .null, .null, .null, .null, .int 0, .int 0, .int 0, .null, .int 0, .null, .null, .null, .int 0, .null] := ⟨_, _, tyMo, rfl, okMo, by decide +kernel, ev_at 591 (by decide +kernel) (by decide +kernel), ev_at 592 (by decide +kernel) (by decide +kernel), ev_at 46 (by decide +kernel) (by decide +kernel), inMo⟩
theorem cLw_10 : Cond.classLink "BatchLinksLaw" 10 "BatchLinksModel" ∈ ev_T := ev_at 591 (by decide +kernel) (by decide +kernel)
theorem qBL_70 : Jvm.Cond.constant "BatchLinks" 70 99999 ∈ ev_T := ev_at 191 (by decide +kernel) (by decide +kernel)
theorem qBL_122 : Jvm.Cond.constantLong "BatchLinks" 122 (-1) ∈ ev_T := ev_at 319 (by decide +kernel) (by decide +kernel)
theorem qBL_243 : Jvm.Cond.constantLong "BatchLinks" 243 1000000000 ∈ ev_T := ev_at 187 (by decide +kernel) (by decide +kernel)
theorem qBy_29 : Jvm.Cond.constantLong "BatchLinks$Bytes" 29 10 ∈ ev_T := ev_at 572 (by decide +kernel) (by decide +kernel)
theorem qLa_23 : Jvm.Cond.constantLong "BatchLinks$Layers" 23 (-1) ∈ ev_T := ev_at 361 (by decide +kernel) (by decide +kernel)
theorem qNa_60 : Jvm.Cond.constant "BatchLinks$Tape" 60 999999 ∈ ev_T := ev_at 474 (by decide +kernel) (by decide +kernel)
theorem qTh_64 : Jvm.Cond.constantLong "BatchLinks$Thing" 64 (-1) ∈ ev_T := ev_at 351 (by decide +kernel) (by decide +kernel)
theorem qLw_13 : Jvm.Cond.constantLong "BatchLinksLaw" 13 4294967295 ∈ ev_T := ev_at 898 (by decide +kernel) (by decide +kernel)
theorem qMo_98 : Jvm.Cond.constantLong "BatchLinksModel" 98 1000000000 ∈ ev_T := ev_at 711 (by decide +kernel) (by decide +kernel)
theorem qMo_100 : Jvm.Cond.constant "BatchLinksModel" 100 99999 ∈ ev_T := ev_at 712 (by decide +kernel) (by decide +kernel)
theorem qMo_138 : Jvm.Cond.constantLong "BatchLinksModel" 138 (-1) ∈ ev_T := ev_at 769 (by decide +kernel) (by decide +kernel)
theorem qMo_167 : Jvm.Cond.constant "BatchLinksModel" 167 1000000 ∈ ev_T := ev_at 826 (by decide +kernel) (by decide +kernel)
theorem qMo_174 : Jvm.Cond.constant "BatchLinksModel" 174 999999 ∈ ev_T := ev_at 839 (by decide +kernel) (by decide +kernel)
theorem qMo_198 : Jvm.Cond.constantLong "BatchLinksModel" 198 9 ∈ ev_T := ev_at 884 (by decide +kernel) (by decide +kernel)
theorem qMo_200 : Jvm.Cond.constantLong "BatchLinksModel" 200 10 ∈ ev_T := ev_at 885 (by decide +kernel) (by decide +kernel)
theorem a_int : Cond.arrayClass .int ∈ ev_T := ev_at 69 (by decide +kernel) (by decide +kernel)
theorem a_long : Cond.arrayClass .long ∈ ev_T := ev_at 149 (by decide +kernel) (by decide +kernel)
theorem a_boolean : Cond.arrayClass .boolean ∈ ev_T := ev_at 706 (by decide +kernel) (by decide +kernel)
set_option maxRecDepth 20000 in
theorem kBL_init : ev_ok mBL_init 0 := ⟨ev_at 53 rfl rfl, ev_at 39 (by decide +kernel) (by decide +kernel), by decide +kernel, by decide +kernel, by decide⟩
theorem vBL_init : Cond.instanceMethod mBL_init.1 ∈ ev_T := ev_at 52 (by decide +kernel) (by decide +kernel)
set_option maxRecDepth 20000 in
theorem kTa_init : ev_ok mTa_init 0 := ⟨ev_at 63 rfl rfl, ev_at 40 (by decide +kernel) (by decide +kernel), by decide +kernel, by decide +kernel, by decide⟩
theorem vTa_init : Cond.instanceMethod mTa_init.1 ∈ ev_T := ev_at 62 (by decide +kernel) (by decide +kernel)
set_option maxRecDepth 20000 in
theorem kNa_init : ev_ok mNa_init 0 := ⟨ev_at 74 rfl rfl, ev_at 41 (by decide +kernel) (by decide +kernel), by decide +kernel, by decide +kernel, by decide⟩
theorem vNa_init : Cond.instanceMethod mNa_init.1 ∈ ev_T := ev_at 73 (by decide +kernel) (by decide +kernel)
set_option maxRecDepth 20000 in
theorem kBy_init : ev_ok mBy_init 1 := ⟨ev_at 80 rfl rfl, ev_at 42 (by decide +kernel) (by decide +kernel), by decide +kernel, by decide +kernel, by decide⟩
theorem vBy_init : Cond.instanceMethod mBy_init.1 ∈ ev_T := ev_at 79 (by decide +kernel) (by decide +kernel)
set_option maxRecDepth 20000 in
theorem kRu_init : ev_ok mRu_init 0 := ⟨ev_at 106 rfl rfl, ev_at 44 (by decide +kernel) (by decide +kernel), by decide +kernel, by decide +kernel, by decide⟩
theorem vRu_init : Cond.instanceMethod mRu_init.1 ∈ ev_T := ev_at 105 (by decide +kernel) (by decide +kernel)
set_option maxRecDepth 20000 in
theorem kLe_init : ev_ok mLe_init 0 := ⟨ev_at 128 rfl rfl, ev_at 45 (by decide +kernel) (by decide +kernel), by decide +kernel, by decide +kernel, by decide⟩
theorem vLe_init : Cond.instanceMethod mLe_init.1 ∈ ev_T := ev_at 127 (by decide +kernel) (by decide +kernel)
set_option maxRecDepth 20000 in
theorem kBL_haul : ev_ok mBL_haul 3 := ⟨ev_at 183 rfl rfl, ev_at 39 (by decide +kernel) (by decide +kernel), by decide +kernel, by decide +kernel, by decide⟩
theorem vBL_haul : Cond.instanceMethod mBL_haul.1 ∈ ev_T := ev_at 181 (by decide +kernel) (by decide +kernel)
theorem wBL_haul : Cond.selects mBL_haul.1.cls mBL_haul.1 mBL_haul.1 ∈ ev_T := ev_at 182 (by decide +kernel) (by decide +kernel)
set_option maxRecDepth 20000 in
theorem kBL_isWeight : ev_ok mBL_isWeight 1 := ⟨ev_at 186 rfl rfl, ev_at 39 (by decide +kernel) (by decide +kernel), by decide +kernel, by decide +kernel, by decide⟩
theorem sBL_isWeight : Cond.static mBL_isWeight.1 ∈ ev_T := ev_at 185 (by decide +kernel) (by decide +kernel)
set_option maxRecDepth 20000 in
theorem kBL_isWithin : ev_ok mBL_isWithin 2 := ⟨ev_at 190 rfl rfl, ev_at 39 (by decide +kernel) (by decide +kernel), by decide +kernel, by decide +kernel, by decide⟩
theorem sBL_isWithin : Cond.static mBL_isWithin.1 ∈ ev_T := ev_at 189 (by decide +kernel) (by decide +kernel)
set_option maxRecDepth 20000 in
theorem kBL_isFull : ev_ok mBL_isFull 0 := ⟨ev_at 195 rfl rfl, ev_at 39 (by decide +kernel) (by decide +kernel), by decide +kernel, by decide +kernel, by decide⟩
theorem vBL_isFull : Cond.instanceMethod mBL_isFull.1 ∈ ev_T := ev_at 194 (by decide +kernel) (by decide +kernel)
theorem wBL_isFull : Cond.selects mBL_isFull.1.cls mBL_isFull.1 mBL_isFull.1 ∈ ev_T := ev_at 0 (by decide +kernel) (by decide +kernel)
set_option maxRecDepth 20000 in
theorem kTh_init : ev_ok mTh_init 3 := ⟨ev_at 199 rfl rfl, ev_at 47 (by decide +kernel) (by decide +kernel), by decide +kernel, by decide +kernel, by decide⟩
theorem vTh_init : Cond.instanceMethod mTh_init.1 ∈ ev_T := ev_at 198 (by decide +kernel) (by decide +kernel)
set_option maxRecDepth 20000 in
theorem kLa_init : ev_ok mLa_init 0 := ⟨ev_at 205 rfl rfl, ev_at 48 (by decide +kernel) (by decide +kernel), by decide +kernel, by decide +kernel, by decide⟩
theorem vLa_init : Cond.instanceMethod mLa_init.1 ∈ ev_T := ev_at 204 (by decide +kernel) (by decide +kernel)
set_option maxRecDepth 20000 in
theorem kLa_append : ev_ok mLa_append 2 := ⟨ev_at 252 rfl rfl, ev_at 48 (by decide +kernel) (by decide +kernel), by decide +kernel, by decide +kernel, by decide⟩
theorem vLa_append : Cond.instanceMethod mLa_append.1 ∈ ev_T := ev_at 250 (by decide +kernel) (by decide +kernel)
theorem wLa_append : Cond.selects mLa_append.1.cls mLa_append.1 mLa_append.1 ∈ ev_T := ev_at 251 (by decide +kernel) (by decide +kernel)
set_option maxRecDepth 20000 in
theorem kBL_keep : ev_ok mBL_keep 1 := ⟨ev_at 256 rfl rfl, ev_at 39 (by decide +kernel) (by decide +kernel), by decide +kernel, by decide +kernel, by decide⟩
theorem vBL_keep : Cond.instanceMethod mBL_keep.1 ∈ ev_T := ev_at 255 (by decide +kernel) (by decide +kernel)
theorem wBL_keep : Cond.selects mBL_keep.1.cls mBL_keep.1 mBL_keep.1 ∈ ev_T := ev_at 1 (by decide +kernel) (by decide +kernel)
set_option maxRecDepth 20000 in
theorem kBL_batch : ev_ok mBL_batch 0 := ⟨ev_at 260 rfl rfl, ev_at 39 (by decide +kernel) (by decide +kernel), by decide +kernel, by decide +kernel, by decide⟩
theorem vBL_batch : Cond.instanceMethod mBL_batch.1 ∈ ev_T := ev_at 258 (by decide +kernel) (by decide +kernel)
theorem wBL_batch : Cond.selects mBL_batch.1.cls mBL_batch.1 mBL_batch.1 ∈ ev_T := ev_at 259 (by decide +kernel) (by decide +kernel)
set_option maxRecDepth 20000 in
theorem kBL_into : ev_ok mBL_into 3 := ⟨ev_at 264 rfl rfl, ev_at 39 (by decide +kernel) (by decide +kernel), by decide +kernel, by decide +kernel, by decide⟩
theorem vBL_into : Cond.instanceMethod mBL_into.1 ∈ ev_T := ev_at 262 (by decide +kernel) (by decide +kernel)
theorem wBL_into : Cond.selects mBL_into.1.cls mBL_into.1 mBL_into.1 ∈ ev_T := ev_at 263 (by decide +kernel) (by decide +kernel)
set_option maxRecDepth 20000 in
theorem kBL_find : ev_ok mBL_find 1 := ⟨ev_at 268 rfl rfl, ev_at 39 (by decide +kernel) (by decide +kernel), by decide +kernel, by decide +kernel, by decide⟩
theorem vBL_find : Cond.instanceMethod mBL_find.1 ∈ ev_T := ev_at 267 (by decide +kernel) (by decide +kernel)
theorem wBL_find : Cond.selects mBL_find.1.cls mBL_find.1 mBL_find.1 ∈ ev_T := ev_at 2 (by decide +kernel) (by decide +kernel)
set_option maxRecDepth 20000 in
theorem kLa_have : ev_ok mLa_have 1 := ⟨ev_at 272 rfl rfl, ev_at 48 (by decide +kernel) (by decide +kernel), by decide +kernel, by decide +kernel, by decide⟩
theorem vLa_have : Cond.instanceMethod mLa_have.1 ∈ ev_T := ev_at 270 (by decide +kernel) (by decide +kernel)
theorem wLa_have : Cond.selects mLa_have.1.cls mLa_have.1 mLa_have.1 ∈ ev_T := ev_at 271 (by decide +kernel) (by decide +kernel)
set_option maxRecDepth 20000 in
theorem kLa_total : ev_ok mLa_total 0 := ⟨ev_at 276 rfl rfl, ev_at 48 (by decide +kernel) (by decide +kernel), by decide +kernel, by decide +kernel, by decide⟩
theorem vLa_total : Cond.instanceMethod mLa_total.1 ∈ ev_T := ev_at 274 (by decide +kernel) (by decide +kernel)
theorem wLa_total : Cond.selects mLa_total.1.cls mLa_total.1 mLa_total.1 ∈ ev_T := ev_at 275 (by decide +kernel) (by decide +kernel)
set_option maxRecDepth 20000 in
theorem kLa_sizeWith : ev_ok mLa_sizeWith 2 := ⟨ev_at 280 rfl rfl, ev_at 48 (by decide +kernel) (by decide +kernel), by decide +kernel, by decide +kernel, by decide⟩
theorem vLa_sizeWith : Cond.instanceMethod mLa_sizeWith.1 ∈ ev_T := ev_at 278 (by decide +kernel) (by decide +kernel)
theorem wLa_sizeWith : Cond.selects mLa_sizeWith.1.cls mLa_sizeWith.1 mLa_sizeWith.1 ∈ ev_T := ev_at 279 (by decide +kernel) (by decide +kernel)
set_option maxRecDepth 20000 in
theorem kLa_sizeOf : ev_ok mLa_sizeOf 1 := ⟨ev_at 284 rfl rfl, ev_at 48 (by decide +kernel) (by decide +kernel), by decide +kernel, by decide +kernel, by decide⟩
theorem vLa_sizeOf : Cond.instanceMethod mLa_sizeOf.1 ∈ ev_T := ev_at 282 (by decide +kernel) (by decide +kernel)
theorem wLa_sizeOf : Cond.selects mLa_sizeOf.1.cls mLa_sizeOf.1 mLa_sizeOf.1 ∈ ev_T := ev_at 283 (by decide +kernel) (by decide +kernel)
set_option maxRecDepth 20000 in
theorem kLa_haulAt : ev_ok mLa_haulAt 1 := ⟨ev_at 288 rfl rfl, ev_at 48 (by decide +kernel) (by decide +kernel), by decide +kernel, by decide +kernel, by decide⟩
theorem vLa_haulAt : Cond.instanceMethod mLa_haulAt.1 ∈ ev_T := ev_at 286 (by decide +kernel) (by decide +kernel)
theorem wLa_haulAt : Cond.selects mLa_haulAt.1.cls mLa_haulAt.1 mLa_haulAt.1 ∈ ev_T := ev_at 287 (by decide +kernel) (by decide +kernel)
set_option maxRecDepth 20000 in
theorem kTh_takeFrom : ev_ok mTh_takeFrom 2 := ⟨ev_at 292 rfl rfl, ev_at 47 (by decide +kernel) (by decide +kernel), by decide +kernel, by decide +kernel, by decide⟩
theorem vTh_takeFrom : Cond.instanceMethod mTh_takeFrom.1 ∈ ev_T := ev_at 290 (by decide +kernel) (by decide +kernel)
theorem wTh_takeFrom : Cond.selects mTh_takeFrom.1.cls mTh_takeFrom.1 mTh_takeFrom.1 ∈ ev_T := ev_at 291 (by decide +kernel) (by decide +kernel)
set_option maxRecDepth 20000 in
theorem kLa_appendFront : ev_ok mLa_appendFront 2 := ⟨ev_at 296 rfl rfl, ev_at 48 (by decide +kernel) (by decide +kernel), by decide +kernel, by decide +kernel, by decide⟩
theorem vLa_appendFront : Cond.instanceMethod mLa_appendFront.1 ∈ ev_T := ev_at 294 (by decide +kernel) (by decide +kernel)
theorem wLa_appendFront : Cond.selects mLa_appendFront.1.cls mLa_appendFront.1 mLa_appendFront.1 ∈ ev_T := ev_at 295 (by decide +kernel) (by decide +kernel)
set_option maxRecDepth 20000 in
theorem kLa_dropFront : ev_ok mLa_dropFront 1 := ⟨ev_at 304 rfl rfl, ev_at 48 (by decide +kernel) (by decide +kernel), by decide +kernel, by decide +kernel, by decide⟩
theorem vLa_dropFront : Cond.instanceMethod mLa_dropFront.1 ∈ ev_T := ev_at 302 (by decide +kernel) (by decide +kernel)
theorem wLa_dropFront : Cond.selects mLa_dropFront.1.cls mLa_dropFront.1 mLa_dropFront.1 ∈ ev_T := ev_at 303 (by decide +kernel) (by decide +kernel)
set_option maxRecDepth 20000 in
theorem kLa_dropLayers : ev_ok mLa_dropLayers 1 := ⟨ev_at 308 rfl rfl, ev_at 48 (by decide +kernel) (by decide +kernel), by decide +kernel, by decide +kernel, by decide⟩
theorem vLa_dropLayers : Cond.instanceMethod mLa_dropLayers.1 ∈ ev_T := ev_at 307 (by decide +kernel) (by decide +kernel)
theorem wLa_dropLayers : Cond.selects mLa_dropLayers.1.cls mLa_dropLayers.1 mLa_dropLayers.1 ∈ ev_T := ev_at 3 (by decide +kernel) (by decide +kernel)
set_option maxRecDepth 20000 in
theorem kBL_box : ev_ok mBL_box 3 := ⟨ev_at 313 rfl rfl, ev_at 39 (by decide +kernel) (by decide +kernel), by decide +kernel, by decide +kernel, by decide⟩
theorem vBL_box : Cond.instanceMethod mBL_box.1 ∈ ev_T := ev_at 311 (by decide +kernel) (by decide +kernel)
theorem wBL_box : Cond.selects mBL_box.1.cls mBL_box.1 mBL_box.1 ∈ ev_T := ev_at 312 (by decide +kernel) (by decide +kernel)
set_option maxRecDepth 20000 in
theorem kBL_waste : ev_ok mBL_waste 2 := ⟨ev_at 318 rfl rfl, ev_at 39 (by decide +kernel) (by decide +kernel), by decide +kernel, by decide +kernel, by decide⟩
theorem vBL_waste : Cond.instanceMethod mBL_waste.1 ∈ ev_T := ev_at 316 (by decide +kernel) (by decide +kernel)
theorem wBL_waste : Cond.selects mBL_waste.1.cls mBL_waste.1 mBL_waste.1 ∈ ev_T := ev_at 317 (by decide +kernel) (by decide +kernel)
set_option maxRecDepth 20000 in
theorem kBL_hold : ev_ok mBL_hold 2 := ⟨ev_at 324 rfl rfl, ev_at 39 (by decide +kernel) (by decide +kernel), by decide +kernel, by decide +kernel, by decide⟩
theorem vBL_hold : Cond.instanceMethod mBL_hold.1 ∈ ev_T := ev_at 322 (by decide +kernel) (by decide +kernel)
theorem wBL_hold : Cond.selects mBL_hold.1.cls mBL_hold.1 mBL_hold.1 ∈ ev_T := ev_at 323 (by decide +kernel) (by decide +kernel)
set_option maxRecDepth 20000 in
theorem kBL_correct : ev_ok mBL_correct 2 := ⟨ev_at 328 rfl rfl, ev_at 39 (by decide +kernel) (by decide +kernel), by decide +kernel, by decide +kernel, by decide⟩
theorem vBL_correct : Cond.instanceMethod mBL_correct.1 ∈ ev_T := ev_at 326 (by decide +kernel) (by decide +kernel)
theorem wBL_correct : Cond.selects mBL_correct.1.cls mBL_correct.1 mBL_correct.1 ∈ ev_T := ev_at 327 (by decide +kernel) (by decide +kernel)
set_option maxRecDepth 20000 in
theorem kBL_findHaul : ev_ok mBL_findHaul 1 := ⟨ev_at 332 rfl rfl, ev_at 39 (by decide +kernel) (by decide +kernel), by decide +kernel, by decide +kernel, by decide⟩
theorem vBL_findHaul : Cond.instanceMethod mBL_findHaul.1 ∈ ev_T := ev_at 331 (by decide +kernel) (by decide +kernel)
theorem wBL_findHaul : Cond.selects mBL_findHaul.1.cls mBL_findHaul.1 mBL_findHaul.1 ∈ ev_T := ev_at 4 (by decide +kernel) (by decide +kernel)
set_option maxRecDepth 20000 in
theorem kLa_clear : ev_ok mLa_clear 0 := ⟨ev_at 337 rfl rfl, ev_at 48 (by decide +kernel) (by decide +kernel), by decide +kernel, by decide +kernel, by decide⟩
theorem vLa_clear : Cond.instanceMethod mLa_clear.1 ∈ ev_T := ev_at 335 (by decide +kernel) (by decide +kernel)
theorem wLa_clear : Cond.selects mLa_clear.1.cls mLa_clear.1 mLa_clear.1 ∈ ev_T := ev_at 336 (by decide +kernel) (by decide +kernel)
set_option maxRecDepth 20000 in
theorem kBL_told : ev_ok mBL_told 2 := ⟨ev_at 341 rfl rfl, ev_at 39 (by decide +kernel) (by decide +kernel), by decide +kernel, by decide +kernel, by decide⟩
theorem vBL_told : Cond.instanceMethod mBL_told.1 ∈ ev_T := ev_at 339 (by decide +kernel) (by decide +kernel)
theorem wBL_told : Cond.selects mBL_told.1.cls mBL_told.1 mBL_told.1 ∈ ev_T := ev_at 340 (by decide +kernel) (by decide +kernel)
set_option maxRecDepth 20000 in
theorem kTh_fact : ev_ok mTh_fact 1 := ⟨ev_at 345 rfl rfl, ev_at 47 (by decide +kernel) (by decide +kernel), by decide +kernel, by decide +kernel, by decide⟩
theorem vTh_fact : Cond.instanceMethod mTh_fact.1 ∈ ev_T := ev_at 343 (by decide +kernel) (by decide +kernel)
theorem wTh_fact : Cond.selects mTh_fact.1.cls mTh_fact.1 mTh_fact.1 ∈ ev_T := ev_at 344 (by decide +kernel) (by decide +kernel)
set_option maxRecDepth 20000 in
theorem kLa_size : ev_ok mLa_size 0 := ⟨ev_at 350 rfl rfl, ev_at 48 (by decide +kernel) (by decide +kernel), by decide +kernel, by decide +kernel, by decide⟩
theorem vLa_size : Cond.instanceMethod mLa_size.1 ∈ ev_T := ev_at 348 (by decide +kernel) (by decide +kernel)
theorem wLa_size : Cond.selects mLa_size.1.cls mLa_size.1 mLa_size.1 ∈ ev_T := ev_at 349 (by decide +kernel) (by decide +kernel)
set_option maxRecDepth 20000 in
theorem kBL_layer : ev_ok mBL_layer 3 := ⟨ev_at 355 rfl rfl, ev_at 39 (by decide +kernel) (by decide +kernel), by decide +kernel, by decide +kernel, by decide⟩
theorem vBL_layer : Cond.instanceMethod mBL_layer.1 ∈ ev_T := ev_at 353 (by decide +kernel) (by decide +kernel)
theorem wBL_layer : Cond.selects mBL_layer.1.cls mBL_layer.1 mBL_layer.1 ∈ ev_T := ev_at 354 (by decide +kernel) (by decide +kernel)
set_option maxRecDepth 20000 in
theorem kLa_gramsAt : ev_ok mLa_gramsAt 1 := ⟨ev_at 360 rfl rfl, ev_at 48 (by decide +kernel) (by decide +kernel), by decide +kernel, by decide +kernel, by decide⟩
theorem vLa_gramsAt : Cond.instanceMethod mLa_gramsAt.1 ∈ ev_T := ev_at 358 (by decide +kernel) (by decide +kernel)
theorem wLa_gramsAt : Cond.selects mLa_gramsAt.1.cls mLa_gramsAt.1 mLa_gramsAt.1 ∈ ev_T := ev_at 359 (by decide +kernel) (by decide +kernel)
set_option maxRecDepth 20000 in
theorem kBL_share : ev_ok mBL_share 3 := ⟨ev_at 365 rfl rfl, ev_at 39 (by decide +kernel) (by decide +kernel), by decide +kernel, by decide +kernel, by decide⟩
theorem vBL_share : Cond.instanceMethod mBL_share.1 ∈ ev_T := ev_at 363 (by decide +kernel) (by decide +kernel)
theorem wBL_share : Cond.selects mBL_share.1.cls mBL_share.1 mBL_share.1 ∈ ev_T := ev_at 364 (by decide +kernel) (by decide +kernel)
set_option maxRecDepth 20000 in
theorem kLa_gramsOf : ev_ok mLa_gramsOf 1 := ⟨ev_at 369 rfl rfl, ev_at 48 (by decide +kernel) (by decide +kernel), by decide +kernel, by decide +kernel, by decide⟩
theorem vLa_gramsOf : Cond.instanceMethod mLa_gramsOf.1 ∈ ev_T := ev_at 367 (by decide +kernel) (by decide +kernel)
theorem wLa_gramsOf : Cond.selects mLa_gramsOf.1.cls mLa_gramsOf.1 mLa_gramsOf.1 ∈ ev_T := ev_at 368 (by decide +kernel) (by decide +kernel)
set_option maxRecDepth 20000 in
theorem kBL_greatestDivisor : ev_ok mBL_greatestDivisor 2 := ⟨ev_at 372 rfl rfl, ev_at 39 (by decide +kernel) (by decide +kernel), by decide +kernel, by decide +kernel, by decide⟩
theorem sBL_greatestDivisor : Cond.static mBL_greatestDivisor.1 ∈ ev_T := ev_at 371 (by decide +kernel) (by decide +kernel)
set_option maxRecDepth 20000 in
theorem kBL_back : ev_ok mBL_back 2 := ⟨ev_at 376 rfl rfl, ev_at 39 (by decide +kernel) (by decide +kernel), by decide +kernel, by decide +kernel, by decide⟩
theorem vBL_back : Cond.instanceMethod mBL_back.1 ∈ ev_T := ev_at 374 (by decide +kernel) (by decide +kernel)
theorem wBL_back : Cond.selects mBL_back.1.cls mBL_back.1 mBL_back.1 ∈ ev_T := ev_at 375 (by decide +kernel) (by decide +kernel)
set_option maxRecDepth 20000 in
theorem kTa_clear : ev_ok mTa_clear 0 := ⟨ev_at 380 rfl rfl, ev_at 40 (by decide +kernel) (by decide +kernel), by decide +kernel, by decide +kernel, by decide⟩
theorem vTa_clear : Cond.instanceMethod mTa_clear.1 ∈ ev_T := ev_at 378 (by decide +kernel) (by decide +kernel)
theorem wTa_clear : Cond.selects mTa_clear.1.cls mTa_clear.1 mTa_clear.1 ∈ ev_T := ev_at 379 (by decide +kernel) (by decide +kernel)
set_option maxRecDepth 20000 in
theorem kTa_count : ev_ok mTa_count 1 := ⟨ev_at 385 rfl rfl, ev_at 40 (by decide +kernel) (by decide +kernel), by decide +kernel, by decide +kernel, by decide⟩
theorem vTa_count : Cond.instanceMethod mTa_count.1 ∈ ev_T := ev_at 383 (by decide +kernel) (by decide +kernel)
theorem wTa_count : Cond.selects mTa_count.1.cls mTa_count.1 mTa_count.1 ∈ ev_T := ev_at 384 (by decide +kernel) (by decide +kernel)
set_option maxRecDepth 20000 in
theorem kTa_pick : ev_ok mTa_pick 1 := ⟨ev_at 389 rfl rfl, ev_at 40 (by decide +kernel) (by decide +kernel), by decide +kernel, by decide +kernel, by decide⟩
theorem vTa_pick : Cond.instanceMethod mTa_pick.1 ∈ ev_T := ev_at 387 (by decide +kernel) (by decide +kernel)
theorem wTa_pick : Cond.selects mTa_pick.1.cls mTa_pick.1 mTa_pick.1 ∈ ev_T := ev_at 388 (by decide +kernel) (by decide +kernel)
set_option maxRecDepth 20000 in
theorem kBL_recall : ev_ok mBL_recall 1 := ⟨ev_at 393 rfl rfl, ev_at 39 (by decide +kernel) (by decide +kernel), by decide +kernel, by decide +kernel, by decide⟩
theorem vBL_recall : Cond.instanceMethod mBL_recall.1 ∈ ev_T := ev_at 391 (by decide +kernel) (by decide +kernel)
theorem wBL_recall : Cond.selects mBL_recall.1.cls mBL_recall.1 mBL_recall.1 ∈ ev_T := ev_at 392 (by decide +kernel) (by decide +kernel)
set_option maxRecDepth 20000 in
theorem kBL_countBoxesWith : ev_ok mBL_countBoxesWith 1 := ⟨ev_at 397 rfl rfl, ev_at 39 (by decide +kernel) (by decide +kernel), by decide +kernel, by decide +kernel, by decide⟩
theorem vBL_countBoxesWith : Cond.instanceMethod mBL_countBoxesWith.1 ∈ ev_T := ev_at 396 (by decide +kernel) (by decide +kernel)
theorem wBL_countBoxesWith : Cond.selects mBL_countBoxesWith.1.cls mBL_countBoxesWith.1 mBL_countBoxesWith.1 ∈ ev_T := ev_at 5 (by decide +kernel) (by decide +kernel)
set_option maxRecDepth 20000 in
theorem kTa_countedAtLeast : ev_ok mTa_countedAtLeast 1 := ⟨ev_at 401 rfl rfl, ev_at 40 (by decide +kernel) (by decide +kernel), by decide +kernel, by decide +kernel, by decide⟩
theorem vTa_countedAtLeast : Cond.instanceMethod mTa_countedAtLeast.1 ∈ ev_T := ev_at 399 (by decide +kernel) (by decide +kernel)
theorem wTa_countedAtLeast : Cond.selects mTa_countedAtLeast.1.cls mTa_countedAtLeast.1 mTa_countedAtLeast.1 ∈ ev_T := ev_at 400 (by decide +kernel) (by decide +kernel)
set_option maxRecDepth 20000 in
theorem kBL_recalled : ev_ok mBL_recalled 2 := ⟨ev_at 405 rfl rfl, ev_at 39 (by decide +kernel) (by decide +kernel), by decide +kernel, by decide +kernel, by decide⟩
theorem vBL_recalled : Cond.instanceMethod mBL_recalled.1 ∈ ev_T := ev_at 403 (by decide +kernel) (by decide +kernel)
theorem wBL_recalled : Cond.selects mBL_recalled.1.cls mBL_recalled.1 mBL_recalled.1 ∈ ev_T := ev_at 404 (by decide +kernel) (by decide +kernel)
set_option maxRecDepth 20000 in
theorem kBL_doubled : ev_ok mBL_doubled 1 := ⟨ev_at 409 rfl rfl, ev_at 39 (by decide +kernel) (by decide +kernel), by decide +kernel, by decide +kernel, by decide⟩
theorem vBL_doubled : Cond.instanceMethod mBL_doubled.1 ∈ ev_T := ev_at 407 (by decide +kernel) (by decide +kernel)
theorem wBL_doubled : Cond.selects mBL_doubled.1.cls mBL_doubled.1 mBL_doubled.1 ∈ ev_T := ev_at 408 (by decide +kernel) (by decide +kernel)
set_option maxRecDepth 20000 in
theorem kBL_unit : ev_ok mBL_unit 1 := ⟨ev_at 413 rfl rfl, ev_at 39 (by decide +kernel) (by decide +kernel), by decide +kernel, by decide +kernel, by decide⟩
theorem vBL_unit : Cond.instanceMethod mBL_unit.1 ∈ ev_T := ev_at 411 (by decide +kernel) (by decide +kernel)
theorem wBL_unit : Cond.selects mBL_unit.1.cls mBL_unit.1 mBL_unit.1 ∈ ev_T := ev_at 412 (by decide +kernel) (by decide +kernel)
set_option maxRecDepth 20000 in
theorem kNa_put : ev_ok mNa_put 1 := ⟨ev_at 417 rfl rfl, ev_at 41 (by decide +kernel) (by decide +kernel), by decide +kernel, by decide +kernel, by decide⟩
theorem vNa_put : Cond.instanceMethod mNa_put.1 ∈ ev_T := ev_at 415 (by decide +kernel) (by decide +kernel)
theorem wNa_put : Cond.selects mNa_put.1.cls mNa_put.1 mNa_put.1 ∈ ev_T := ev_at 416 (by decide +kernel) (by decide +kernel)
set_option maxRecDepth 20000 in
theorem kBy_put : ev_ok mBy_put 1 := ⟨ev_at 421 rfl rfl, ev_at 42 (by decide +kernel) (by decide +kernel), by decide +kernel, by decide +kernel, by decide⟩
theorem vBy_put : Cond.instanceMethod mBy_put.1 ∈ ev_T := ev_at 419 (by decide +kernel) (by decide +kernel)
theorem wBy_put : Cond.selects mBy_put.1.cls mBy_put.1 mBy_put.1 ∈ ev_T := ev_at 420 (by decide +kernel) (by decide +kernel)
set_option maxRecDepth 20000 in
theorem kBL_names : ev_ok mBL_names 0 := ⟨ev_at 425 rfl rfl, ev_at 39 (by decide +kernel) (by decide +kernel), by decide +kernel, by decide +kernel, by decide⟩
theorem vBL_names : Cond.instanceMethod mBL_names.1 ∈ ev_T := ev_at 423 (by decide +kernel) (by decide +kernel)
theorem wBL_names : Cond.selects mBL_names.1.cls mBL_names.1 mBL_names.1 ∈ ev_T := ev_at 424 (by decide +kernel) (by decide +kernel)
set_option maxRecDepth 20000 in
theorem kNa_read : ev_ok mNa_read 1 := ⟨ev_at 429 rfl rfl, ev_at 41 (by decide +kernel) (by decide +kernel), by decide +kernel, by decide +kernel, by decide⟩
theorem vNa_read : Cond.instanceMethod mNa_read.1 ∈ ev_T := ev_at 427 (by decide +kernel) (by decide +kernel)
theorem wNa_read : Cond.selects mNa_read.1.cls mNa_read.1 mNa_read.1 ∈ ev_T := ev_at 428 (by decide +kernel) (by decide +kernel)
set_option maxRecDepth 20000 in
theorem kRu_clear : ev_ok mRu_clear 0 := ⟨ev_at 433 rfl rfl, ev_at 44 (by decide +kernel) (by decide +kernel), by decide +kernel, by decide +kernel, by decide⟩
theorem vRu_clear : Cond.instanceMethod mRu_clear.1 ∈ ev_T := ev_at 431 (by decide +kernel) (by decide +kernel)
theorem wRu_clear : Cond.selects mRu_clear.1.cls mRu_clear.1 mRu_clear.1 ∈ ev_T := ev_at 432 (by decide +kernel) (by decide +kernel)
set_option maxRecDepth 20000 in
theorem kNa_skipBlanks : ev_ok mNa_skipBlanks 0 := ⟨ev_at 437 rfl rfl, ev_at 41 (by decide +kernel) (by decide +kernel), by decide +kernel, by decide +kernel, by decide⟩
theorem vNa_skipBlanks : Cond.instanceMethod mNa_skipBlanks.1 ∈ ev_T := ev_at 436 (by decide +kernel) (by decide +kernel)
theorem wNa_skipBlanks : Cond.selects mNa_skipBlanks.1.cls mNa_skipBlanks.1 mNa_skipBlanks.1 ∈ ev_T := ev_at 6 (by decide +kernel) (by decide +kernel)
set_option maxRecDepth 20000 in
theorem kNa_isBlank : ev_ok mNa_isBlank 0 := ⟨ev_at 441 rfl rfl, ev_at 41 (by decide +kernel) (by decide +kernel), by decide +kernel, by decide +kernel, by decide⟩
theorem vNa_isBlank : Cond.instanceMethod mNa_isBlank.1 ∈ ev_T := ev_at 440 (by decide +kernel) (by decide +kernel)
theorem wNa_isBlank : Cond.selects mNa_isBlank.1.cls mNa_isBlank.1 mNa_isBlank.1 ∈ ev_T := ev_at 7 (by decide +kernel) (by decide +kernel)
set_option maxRecDepth 20000 in
theorem kBy_byteAt : ev_ok mBy_byteAt 1 := ⟨ev_at 445 rfl rfl, ev_at 42 (by decide +kernel) (by decide +kernel), by decide +kernel, by decide +kernel, by decide⟩
theorem vBy_byteAt : Cond.instanceMethod mBy_byteAt.1 ∈ ev_T := ev_at 443 (by decide +kernel) (by decide +kernel)
theorem wBy_byteAt : Cond.selects mBy_byteAt.1.cls mBy_byteAt.1 mBy_byteAt.1 ∈ ev_T := ev_at 444 (by decide +kernel) (by decide +kernel)
set_option maxRecDepth 20000 in
theorem kBy_size : ev_ok mBy_size 0 := ⟨ev_at 449 rfl rfl, ev_at 42 (by decide +kernel) (by decide +kernel), by decide +kernel, by decide +kernel, by decide⟩
theorem vBy_size : Cond.instanceMethod mBy_size.1 ∈ ev_T := ev_at 447 (by decide +kernel) (by decide +kernel)
theorem wBy_size : Cond.selects mBy_size.1.cls mBy_size.1 mBy_size.1 ∈ ev_T := ev_at 448 (by decide +kernel) (by decide +kernel)
set_option maxRecDepth 20000 in
theorem kNa_readRule : ev_ok mNa_readRule 1 := ⟨ev_at 453 rfl rfl, ev_at 41 (by decide +kernel) (by decide +kernel), by decide +kernel, by decide +kernel, by decide⟩
theorem vNa_readRule : Cond.instanceMethod mNa_readRule.1 ∈ ev_T := ev_at 452 (by decide +kernel) (by decide +kernel)
theorem wNa_readRule : Cond.selects mNa_readRule.1.cls mNa_readRule.1 mNa_readRule.1 ∈ ev_T := ev_at 8 (by decide +kernel) (by decide +kernel)
set_option maxRecDepth 20000 in
theorem kRu_isFull : ev_ok mRu_isFull 0 := ⟨ev_at 457 rfl rfl, ev_at 44 (by decide +kernel) (by decide +kernel), by decide +kernel, by decide +kernel, by decide⟩
theorem vRu_isFull : Cond.instanceMethod mRu_isFull.1 ∈ ev_T := ev_at 455 (by decide +kernel) (by decide +kernel)
theorem wRu_isFull : Cond.selects mRu_isFull.1.cls mRu_isFull.1 mRu_isFull.1 ∈ ev_T := ev_at 456 (by decide +kernel) (by decide +kernel)
set_option maxRecDepth 20000 in
theorem kNa_readNumber : ev_ok mNa_readNumber 2 := ⟨ev_at 461 rfl rfl, ev_at 41 (by decide +kernel) (by decide +kernel), by decide +kernel, by decide +kernel, by decide⟩
theorem vNa_readNumber : Cond.instanceMethod mNa_readNumber.1 ∈ ev_T := ev_at 460 (by decide +kernel) (by decide +kernel)
theorem wNa_readNumber : Cond.selects mNa_readNumber.1.cls mNa_readNumber.1 mNa_readNumber.1 ∈ ev_T := ev_at 9 (by decide +kernel) (by decide +kernel)
set_option maxRecDepth 20000 in
theorem kNa_isDigit : ev_ok mNa_isDigit 0 := ⟨ev_at 465 rfl rfl, ev_at 41 (by decide +kernel) (by decide +kernel), by decide +kernel, by decide +kernel, by decide⟩
theorem vNa_isDigit : Cond.instanceMethod mNa_isDigit.1 ∈ ev_T := ev_at 464 (by decide +kernel) (by decide +kernel)
theorem wNa_isDigit : Cond.selects mNa_isDigit.1.cls mNa_isDigit.1 mNa_isDigit.1 ∈ ev_T := ev_at 10 (by decide +kernel) (by decide +kernel)
set_option maxRecDepth 20000 in
theorem kNa_fail : ev_ok mNa_fail 1 := ⟨ev_at 469 rfl rfl, ev_at 41 (by decide +kernel) (by decide +kernel), by decide +kernel, by decide +kernel, by decide⟩
theorem vNa_fail : Cond.instanceMethod mNa_fail.1 ∈ ev_T := ev_at 468 (by decide +kernel) (by decide +kernel)
theorem wNa_fail : Cond.selects mNa_fail.1.cls mNa_fail.1 mNa_fail.1 ∈ ev_T := ev_at 11 (by decide +kernel) (by decide +kernel)
set_option maxRecDepth 20000 in
theorem kNa_readSign : ev_ok mNa_readSign 1 := ⟨ev_at 473 rfl rfl, ev_at 41 (by decide +kernel) (by decide +kernel), by decide +kernel, by decide +kernel, by decide⟩
theorem vNa_readSign : Cond.instanceMethod mNa_readSign.1 ∈ ev_T := ev_at 472 (by decide +kernel) (by decide +kernel)
theorem wNa_readSign : Cond.selects mNa_readSign.1.cls mNa_readSign.1 mNa_readSign.1 ∈ ev_T := ev_at 12 (by decide +kernel) (by decide +kernel)
set_option maxRecDepth 20000 in
theorem kRu_add : ev_ok mRu_add 4 := ⟨ev_at 478 rfl rfl, ev_at 44 (by decide +kernel) (by decide +kernel), by decide +kernel, by decide +kernel, by decide⟩
theorem vRu_add : Cond.instanceMethod mRu_add.1 ∈ ev_T := ev_at 476 (by decide +kernel) (by decide +kernel)
theorem wRu_add : Cond.selects mRu_add.1.cls mRu_add.1 mRu_add.1 ∈ ev_T := ev_at 477 (by decide +kernel) (by decide +kernel)
set_option maxRecDepth 20000 in
theorem kNa_clear : ev_ok mNa_clear 0 := ⟨ev_at 483 rfl rfl, ev_at 41 (by decide +kernel) (by decide +kernel), by decide +kernel, by decide +kernel, by decide⟩
theorem vNa_clear : Cond.instanceMethod mNa_clear.1 ∈ ev_T := ev_at 481 (by decide +kernel) (by decide +kernel)
theorem wNa_clear : Cond.selects mNa_clear.1.cls mNa_clear.1 mNa_clear.1 ∈ ev_T := ev_at 482 (by decide +kernel) (by decide +kernel)
set_option maxRecDepth 20000 in
theorem kBy_clear : ev_ok mBy_clear 0 := ⟨ev_at 487 rfl rfl, ev_at 42 (by decide +kernel) (by decide +kernel), by decide +kernel, by decide +kernel, by decide⟩
theorem vBy_clear : Cond.instanceMethod mBy_clear.1 ∈ ev_T := ev_at 485 (by decide +kernel) (by decide +kernel)
theorem wBy_clear : Cond.selects mBy_clear.1.cls mBy_clear.1 mBy_clear.1 ∈ ev_T := ev_at 486 (by decide +kernel) (by decide +kernel)
set_option maxRecDepth 20000 in
theorem kRu_size : ev_ok mRu_size 0 := ⟨ev_at 491 rfl rfl, ev_at 44 (by decide +kernel) (by decide +kernel), by decide +kernel, by decide +kernel, by decide⟩
theorem vRu_size : Cond.instanceMethod mRu_size.1 ∈ ev_T := ev_at 489 (by decide +kernel) (by decide +kernel)
theorem wRu_size : Cond.selects mRu_size.1.cls mRu_size.1 mRu_size.1 ∈ ev_T := ev_at 490 (by decide +kernel) (by decide +kernel)
set_option maxRecDepth 20000 in
theorem kBL_name : ev_ok mBL_name 3 := ⟨ev_at 495 rfl rfl, ev_at 39 (by decide +kernel) (by decide +kernel), by decide +kernel, by decide +kernel, by decide⟩
theorem vBL_name : Cond.instanceMethod mBL_name.1 ∈ ev_T := ev_at 493 (by decide +kernel) (by decide +kernel)
theorem wBL_name : Cond.selects mBL_name.1.cls mBL_name.1 mBL_name.1 ∈ ev_T := ev_at 494 (by decide +kernel) (by decide +kernel)
set_option maxRecDepth 20000 in
theorem kRu_inForce : ev_ok mRu_inForce 2 := ⟨ev_at 499 rfl rfl, ev_at 44 (by decide +kernel) (by decide +kernel), by decide +kernel, by decide +kernel, by decide⟩
theorem vRu_inForce : Cond.instanceMethod mRu_inForce.1 ∈ ev_T := ev_at 497 (by decide +kernel) (by decide +kernel)
theorem wRu_inForce : Cond.selects mRu_inForce.1.cls mRu_inForce.1 mRu_inForce.1 ∈ ev_T := ev_at 498 (by decide +kernel) (by decide +kernel)
set_option maxRecDepth 20000 in
theorem kRu_allows : ev_ok mRu_allows 2 := ⟨ev_at 503 rfl rfl, ev_at 44 (by decide +kernel) (by decide +kernel), by decide +kernel, by decide +kernel, by decide⟩
theorem vRu_allows : Cond.instanceMethod mRu_allows.1 ∈ ev_T := ev_at 501 (by decide +kernel) (by decide +kernel)
theorem wRu_allows : Cond.selects mRu_allows.1.cls mRu_allows.1 mRu_allows.1 ∈ ev_T := ev_at 502 (by decide +kernel) (by decide +kernel)
set_option maxRecDepth 20000 in
theorem kBL_certificate : ev_ok mBL_certificate 1 := ⟨ev_at 507 rfl rfl, ev_at 39 (by decide +kernel) (by decide +kernel), by decide +kernel, by decide +kernel, by decide⟩
theorem vBL_certificate : Cond.instanceMethod mBL_certificate.1 ∈ ev_T := ev_at 505 (by decide +kernel) (by decide +kernel)
theorem wBL_certificate : Cond.selects mBL_certificate.1.cls mBL_certificate.1 mBL_certificate.1 ∈ ev_T := ev_at 506 (by decide +kernel) (by decide +kernel)
set_option maxRecDepth 20000 in
theorem kLe_open : ev_ok mLe_open 1 := ⟨ev_at 511 rfl rfl, ev_at 45 (by decide +kernel) (by decide +kernel), by decide +kernel, by decide +kernel, by decide⟩
theorem vLe_open : Cond.instanceMethod mLe_open.1 ∈ ev_T := ev_at 509 (by decide +kernel) (by decide +kernel)
theorem wLe_open : Cond.selects mLe_open.1.cls mLe_open.1 mLe_open.1 ∈ ev_T := ev_at 510 (by decide +kernel) (by decide +kernel)
set_option maxRecDepth 20000 in
theorem kBL_credit : ev_ok mBL_credit 3 := ⟨ev_at 515 rfl rfl, ev_at 39 (by decide +kernel) (by decide +kernel), by decide +kernel, by decide +kernel, by decide⟩
theorem vBL_credit : Cond.instanceMethod mBL_credit.1 ∈ ev_T := ev_at 513 (by decide +kernel) (by decide +kernel)
theorem wBL_credit : Cond.selects mBL_credit.1.cls mBL_credit.1 mBL_credit.1 ∈ ev_T := ev_at 514 (by decide +kernel) (by decide +kernel)
set_option maxRecDepth 20000 in
theorem kBL_canEnter : ev_ok mBL_canEnter 3 := ⟨ev_at 519 rfl rfl, ev_at 39 (by decide +kernel) (by decide +kernel), by decide +kernel, by decide +kernel, by decide⟩
theorem vBL_canEnter : Cond.instanceMethod mBL_canEnter.1 ∈ ev_T := ev_at 518 (by decide +kernel) (by decide +kernel)
theorem wBL_canEnter : Cond.selects mBL_canEnter.1.cls mBL_canEnter.1 mBL_canEnter.1 ∈ ev_T := ev_at 13 (by decide +kernel) (by decide +kernel)
set_option maxRecDepth 20000 in
theorem kLe_has : ev_ok mLe_has 1 := ⟨ev_at 523 rfl rfl, ev_at 45 (by decide +kernel) (by decide +kernel), by decide +kernel, by decide +kernel, by decide⟩
theorem vLe_has : Cond.instanceMethod mLe_has.1 ∈ ev_T := ev_at 521 (by decide +kernel) (by decide +kernel)
theorem wLe_has : Cond.selects mLe_has.1.cls mLe_has.1 mLe_has.1 ∈ ev_T := ev_at 522 (by decide +kernel) (by decide +kernel)
set_option maxRecDepth 20000 in
theorem kLe_isFull : ev_ok mLe_isFull 0 := ⟨ev_at 527 rfl rfl, ev_at 45 (by decide +kernel) (by decide +kernel), by decide +kernel, by decide +kernel, by decide⟩
theorem vLe_isFull : Cond.instanceMethod mLe_isFull.1 ∈ ev_T := ev_at 525 (by decide +kernel) (by decide +kernel)
theorem wLe_isFull : Cond.selects mLe_isFull.1.cls mLe_isFull.1 mLe_isFull.1 ∈ ev_T := ev_at 526 (by decide +kernel) (by decide +kernel)
set_option maxRecDepth 20000 in
theorem kLe_enter : ev_ok mLe_enter 3 := ⟨ev_at 531 rfl rfl, ev_at 45 (by decide +kernel) (by decide +kernel), by decide +kernel, by decide +kernel, by decide⟩
theorem vLe_enter : Cond.instanceMethod mLe_enter.1 ∈ ev_T := ev_at 529 (by decide +kernel) (by decide +kernel)
theorem wLe_enter : Cond.selects mLe_enter.1.cls mLe_enter.1 mLe_enter.1 ∈ ev_T := ev_at 530 (by decide +kernel) (by decide +kernel)
set_option maxRecDepth 20000 in
theorem kBL_claim : ev_ok mBL_claim 3 := ⟨ev_at 536 rfl rfl, ev_at 39 (by decide +kernel) (by decide +kernel), by decide +kernel, by decide +kernel, by decide⟩
theorem vBL_claim : Cond.instanceMethod mBL_claim.1 ∈ ev_T := ev_at 534 (by decide +kernel) (by decide +kernel)
theorem wBL_claim : Cond.selects mBL_claim.1.cls mBL_claim.1 mBL_claim.1 ∈ ev_T := ev_at 535 (by decide +kernel) (by decide +kernel)
set_option maxRecDepth 20000 in
theorem kLe_isOver : ev_ok mLe_isOver 2 := ⟨ev_at 540 rfl rfl, ev_at 45 (by decide +kernel) (by decide +kernel), by decide +kernel, by decide +kernel, by decide⟩
theorem vLe_isOver : Cond.instanceMethod mLe_isOver.1 ∈ ev_T := ev_at 538 (by decide +kernel) (by decide +kernel)
theorem wLe_isOver : Cond.selects mLe_isOver.1.cls mLe_isOver.1 mLe_isOver.1 ∈ ev_T := ev_at 539 (by decide +kernel) (by decide +kernel)
set_option maxRecDepth 20000 in
theorem kLe_covers : ev_ok mLe_covers 3 := ⟨ev_at 545 rfl rfl, ev_at 45 (by decide +kernel) (by decide +kernel), by decide +kernel, by decide +kernel, by decide⟩
theorem vLe_covers : Cond.instanceMethod mLe_covers.1 ∈ ev_T := ev_at 543 (by decide +kernel) (by decide +kernel)
theorem wLe_covers : Cond.selects mLe_covers.1.cls mLe_covers.1 mLe_covers.1 ∈ ev_T := ev_at 544 (by decide +kernel) (by decide +kernel)
set_option maxRecDepth 20000 in
theorem kLe_sumUpTo : ev_ok mLe_sumUpTo 2 := ⟨ev_at 549 rfl rfl, ev_at 45 (by decide +kernel) (by decide +kernel), by decide +kernel, by decide +kernel, by decide⟩
theorem vLe_sumUpTo : Cond.instanceMethod mLe_sumUpTo.1 ∈ ev_T := ev_at 547 (by decide +kernel) (by decide +kernel)
theorem wLe_sumUpTo : Cond.selects mLe_sumUpTo.1.cls mLe_sumUpTo.1 mLe_sumUpTo.1 ∈ ev_T := ev_at 548 (by decide +kernel) (by decide +kernel)
set_option maxRecDepth 20000 in
theorem kBL_balance : ev_ok mBL_balance 2 := ⟨ev_at 553 rfl rfl, ev_at 39 (by decide +kernel) (by decide +kernel), by decide +kernel, by decide +kernel, by decide⟩
theorem vBL_balance : Cond.instanceMethod mBL_balance.1 ∈ ev_T := ev_at 551 (by decide +kernel) (by decide +kernel)
theorem wBL_balance : Cond.selects mBL_balance.1.cls mBL_balance.1 mBL_balance.1 ∈ ev_T := ev_at 552 (by decide +kernel) (by decide +kernel)
set_option maxRecDepth 20000 in
theorem kBL_warm : ev_ok mBL_warm 2 := ⟨ev_at 558 rfl rfl, ev_at 39 (by decide +kernel) (by decide +kernel), by decide +kernel, by decide +kernel, by decide⟩
theorem vBL_warm : Cond.instanceMethod mBL_warm.1 ∈ ev_T := ev_at 556 (by decide +kernel) (by decide +kernel)
theorem wBL_warm : Cond.selects mBL_warm.1.cls mBL_warm.1 mBL_warm.1 ∈ ev_T := ev_at 557 (by decide +kernel) (by decide +kernel)
set_option maxRecDepth 20000 in
theorem kBL_paper : ev_ok mBL_paper 3 := ⟨ev_at 563 rfl rfl, ev_at 39 (by decide +kernel) (by decide +kernel), by decide +kernel, by decide +kernel, by decide⟩
theorem vBL_paper : Cond.instanceMethod mBL_paper.1 ∈ ev_T := ev_at 561 (by decide +kernel) (by decide +kernel)
theorem wBL_paper : Cond.selects mBL_paper.1.cls mBL_paper.1 mBL_paper.1 ∈ ev_T := ev_at 562 (by decide +kernel) (by decide +kernel)
set_option maxRecDepth 20000 in
theorem kBy_putNumber : ev_ok mBy_putNumber 1 := ⟨ev_at 568 rfl rfl, ev_at 42 (by decide +kernel) (by decide +kernel), by decide +kernel, by decide +kernel, by decide⟩
theorem vBy_putNumber : Cond.instanceMethod mBy_putNumber.1 ∈ ev_T := ev_at 566 (by decide +kernel) (by decide +kernel)
theorem wBy_putNumber : Cond.selects mBy_putNumber.1.cls mBy_putNumber.1 mBy_putNumber.1 ∈ ev_T := ev_at 567 (by decide +kernel) (by decide +kernel)
set_option maxRecDepth 20000 in
theorem kBy_digitsOf : ev_ok mBy_digitsOf 1 := ⟨ev_at 571 rfl rfl, ev_at 42 (by decide +kernel) (by decide +kernel), by decide +kernel, by decide +kernel, by decide⟩
theorem sBy_digitsOf : Cond.static mBy_digitsOf.1 ∈ ev_T := ev_at 570 (by decide +kernel) (by decide +kernel)
set_option maxRecDepth 20000 in
theorem kBL_all : ev_ok mBL_all 1 := ⟨ev_at 578 rfl rfl, ev_at 39 (by decide +kernel) (by decide +kernel), by decide +kernel, by decide +kernel, by decide⟩
theorem vBL_all : Cond.instanceMethod mBL_all.1 ∈ ev_T := ev_at 576 (by decide +kernel) (by decide +kernel)
theorem wBL_all : Cond.selects mBL_all.1.cls mBL_all.1 mBL_all.1 ∈ ev_T := ev_at 577 (by decide +kernel) (by decide +kernel)
set_option maxRecDepth 20000 in
theorem kBL_sumOfFact : ev_ok mBL_sumOfFact 1 := ⟨ev_at 582 rfl rfl, ev_at 39 (by decide +kernel) (by decide +kernel), by decide +kernel, by decide +kernel, by decide⟩
theorem vBL_sumOfFact : Cond.instanceMethod mBL_sumOfFact.1 ∈ ev_T := ev_at 581 (by decide +kernel) (by decide +kernel)
theorem wBL_sumOfFact : Cond.selects mBL_sumOfFact.1.cls mBL_sumOfFact.1 mBL_sumOfFact.1 ∈ ev_T := ev_at 14 (by decide +kernel) (by decide +kernel)
set_option maxRecDepth 20000 in
theorem kBL_sumInside : ev_ok mBL_sumInside 1 := ⟨ev_at 586 rfl rfl, ev_at 39 (by decide +kernel) (by decide +kernel), by decide +kernel, by decide +kernel, by decide⟩
theorem vBL_sumInside : Cond.instanceMethod mBL_sumInside.1 ∈ ev_T := ev_at 585 (by decide +kernel) (by decide +kernel)
theorem wBL_sumInside : Cond.selects mBL_sumInside.1.cls mBL_sumInside.1 mBL_sumInside.1 ∈ ev_T := ev_at 15 (by decide +kernel) (by decide +kernel)
set_option maxRecDepth 20000 in
theorem kLe_size : ev_ok mLe_size 0 := ⟨ev_at 590 rfl rfl, ev_at 45 (by decide +kernel) (by decide +kernel), by decide +kernel, by decide +kernel, by decide⟩
theorem vLe_size : Cond.instanceMethod mLe_size.1 ∈ ev_T := ev_at 588 (by decide +kernel) (by decide +kernel)
theorem wLe_size : Cond.selects mLe_size.1.cls mLe_size.1 mLe_size.1 ∈ ev_T := ev_at 589 (by decide +kernel) (by decide +kernel)
set_option maxRecDepth 20000 in
theorem kMo_init : ev_ok mMo_init 0 := ⟨ev_at 595 rfl rfl, ev_at 46 (by decide +kernel) (by decide +kernel), by decide +kernel, by decide +kernel, by decide⟩
theorem vMo_init : Cond.instanceMethod mMo_init.1 ∈ ev_T := ev_at 594 (by decide +kernel) (by decide +kernel)
set_option maxRecDepth 20000 in
theorem kMo_haul : ev_ok mMo_haul 3 := ⟨ev_at 710 rfl rfl, ev_at 46 (by decide +kernel) (by decide +kernel), by decide +kernel, by decide +kernel, by decide⟩
theorem vMo_haul : Cond.instanceMethod mMo_haul.1 ∈ ev_T := ev_at 708 (by decide +kernel) (by decide +kernel)
theorem wMo_haul : Cond.selects mMo_haul.1.cls mMo_haul.1 mMo_haul.1 ∈ ev_T := ev_at 709 (by decide +kernel) (by decide +kernel)
set_option maxRecDepth 20000 in
theorem kMo_make : ev_ok mMo_make 4 := ⟨ev_at 716 rfl rfl, ev_at 46 (by decide +kernel) (by decide +kernel), by decide +kernel, by decide +kernel, by decide⟩
theorem vMo_make : Cond.instanceMethod mMo_make.1 ∈ ev_T := ev_at 715 (by decide +kernel) (by decide +kernel)
theorem wMo_make : Cond.selects mMo_make.1.cls mMo_make.1 mMo_make.1 ∈ ev_T := ev_at 16 (by decide +kernel) (by decide +kernel)
set_option maxRecDepth 20000 in
theorem kMo_batch : ev_ok mMo_batch 0 := ⟨ev_at 720 rfl rfl, ev_at 46 (by decide +kernel) (by decide +kernel), by decide +kernel, by decide +kernel, by decide⟩
theorem vMo_batch : Cond.instanceMethod mMo_batch.1 ∈ ev_T := ev_at 718 (by decide +kernel) (by decide +kernel)
theorem wMo_batch : Cond.selects mMo_batch.1.cls mMo_batch.1 mMo_batch.1 ∈ ev_T := ev_at 719 (by decide +kernel) (by decide +kernel)
set_option maxRecDepth 20000 in
theorem kMo_into : ev_ok mMo_into 3 := ⟨ev_at 724 rfl rfl, ev_at 46 (by decide +kernel) (by decide +kernel), by decide +kernel, by decide +kernel, by decide⟩
theorem vMo_into : Cond.instanceMethod mMo_into.1 ∈ ev_T := ev_at 722 (by decide +kernel) (by decide +kernel)
theorem wMo_into : Cond.selects mMo_into.1.cls mMo_into.1 mMo_into.1 ∈ ev_T := ev_at 723 (by decide +kernel) (by decide +kernel)
set_option maxRecDepth 20000 in
theorem kMo_isOf : ev_ok mMo_isOf 2 := ⟨ev_at 728 rfl rfl, ev_at 46 (by decide +kernel) (by decide +kernel), by decide +kernel, by decide +kernel, by decide⟩
theorem vMo_isOf : Cond.instanceMethod mMo_isOf.1 ∈ ev_T := ev_at 727 (by decide +kernel) (by decide +kernel)
theorem wMo_isOf : Cond.selects mMo_isOf.1.cls mMo_isOf.1 mMo_isOf.1 ∈ ev_T := ev_at 17 (by decide +kernel) (by decide +kernel)
set_option maxRecDepth 20000 in
theorem kMo_isThing : ev_ok mMo_isThing 1 := ⟨ev_at 732 rfl rfl, ev_at 46 (by decide +kernel) (by decide +kernel), by decide +kernel, by decide +kernel, by decide⟩
theorem vMo_isThing : Cond.instanceMethod mMo_isThing.1 ∈ ev_T := ev_at 731 (by decide +kernel) (by decide +kernel)
theorem wMo_isThing : Cond.selects mMo_isThing.1.cls mMo_isThing.1 mMo_isThing.1 ∈ ev_T := ev_at 18 (by decide +kernel) (by decide +kernel)
set_option maxRecDepth 20000 in
theorem kMo_isSource : ev_ok mMo_isSource 1 := ⟨ev_at 736 rfl rfl, ev_at 46 (by decide +kernel) (by decide +kernel), by decide +kernel, by decide +kernel, by decide⟩
theorem vMo_isSource : Cond.instanceMethod mMo_isSource.1 ∈ ev_T := ev_at 735 (by decide +kernel) (by decide +kernel)
theorem wMo_isSource : Cond.selects mMo_isSource.1.cls mMo_isSource.1 mMo_isSource.1 ∈ ev_T := ev_at 19 (by decide +kernel) (by decide +kernel)
set_option maxRecDepth 20000 in
theorem kMo_has : ev_ok mMo_has 2 := ⟨ev_at 740 rfl rfl, ev_at 46 (by decide +kernel) (by decide +kernel), by decide +kernel, by decide +kernel, by decide⟩
theorem vMo_has : Cond.instanceMethod mMo_has.1 ∈ ev_T := ev_at 739 (by decide +kernel) (by decide +kernel)
theorem wMo_has : Cond.selects mMo_has.1.cls mMo_has.1 mMo_has.1 ∈ ev_T := ev_at 20 (by decide +kernel) (by decide +kernel)
set_option maxRecDepth 20000 in
theorem kMo_gramsIn : ev_ok mMo_gramsIn 1 := ⟨ev_at 744 rfl rfl, ev_at 46 (by decide +kernel) (by decide +kernel), by decide +kernel, by decide +kernel, by decide⟩
theorem vMo_gramsIn : Cond.instanceMethod mMo_gramsIn.1 ∈ ev_T := ev_at 743 (by decide +kernel) (by decide +kernel)
theorem wMo_gramsIn : Cond.selects mMo_gramsIn.1.cls mMo_gramsIn.1 mMo_gramsIn.1 ∈ ev_T := ev_at 21 (by decide +kernel) (by decide +kernel)
set_option maxRecDepth 20000 in
theorem kMo_layBy : ev_ok mMo_layBy 3 := ⟨ev_at 748 rfl rfl, ev_at 46 (by decide +kernel) (by decide +kernel), by decide +kernel, by decide +kernel, by decide⟩
theorem vMo_layBy : Cond.instanceMethod mMo_layBy.1 ∈ ev_T := ev_at 747 (by decide +kernel) (by decide +kernel)
theorem wMo_layBy : Cond.selects mMo_layBy.1.cls mMo_layBy.1 mMo_layBy.1 ∈ ev_T := ev_at 22 (by decide +kernel) (by decide +kernel)
set_option maxRecDepth 20000 in
theorem kMo_lay : ev_ok mMo_lay 2 := ⟨ev_at 752 rfl rfl, ev_at 46 (by decide +kernel) (by decide +kernel), by decide +kernel, by decide +kernel, by decide⟩
theorem vMo_lay : Cond.instanceMethod mMo_lay.1 ∈ ev_T := ev_at 751 (by decide +kernel) (by decide +kernel)
theorem wMo_lay : Cond.selects mMo_lay.1.cls mMo_lay.1 mMo_lay.1 ∈ ev_T := ev_at 23 (by decide +kernel) (by decide +kernel)
set_option maxRecDepth 20000 in
theorem kMo_putDown : ev_ok mMo_putDown 1 := ⟨ev_at 756 rfl rfl, ev_at 46 (by decide +kernel) (by decide +kernel), by decide +kernel, by decide +kernel, by decide⟩
theorem vMo_putDown : Cond.instanceMethod mMo_putDown.1 ∈ ev_T := ev_at 755 (by decide +kernel) (by decide +kernel)
theorem wMo_putDown : Cond.selects mMo_putDown.1.cls mMo_putDown.1 mMo_putDown.1 ∈ ev_T := ev_at 24 (by decide +kernel) (by decide +kernel)
set_option maxRecDepth 20000 in
theorem kMo_takeOut : ev_ok mMo_takeOut 2 := ⟨ev_at 760 rfl rfl, ev_at 46 (by decide +kernel) (by decide +kernel), by decide +kernel, by decide +kernel, by decide⟩
theorem vMo_takeOut : Cond.instanceMethod mMo_takeOut.1 ∈ ev_T := ev_at 759 (by decide +kernel) (by decide +kernel)
theorem wMo_takeOut : Cond.selects mMo_takeOut.1.cls mMo_takeOut.1 mMo_takeOut.1 ∈ ev_T := ev_at 25 (by decide +kernel) (by decide +kernel)
set_option maxRecDepth 20000 in
theorem kMo_box : ev_ok mMo_box 3 := ⟨ev_at 764 rfl rfl, ev_at 46 (by decide +kernel) (by decide +kernel), by decide +kernel, by decide +kernel, by decide⟩
theorem vMo_box : Cond.instanceMethod mMo_box.1 ∈ ev_T := ev_at 762 (by decide +kernel) (by decide +kernel)
theorem wMo_box : Cond.selects mMo_box.1.cls mMo_box.1 mMo_box.1 ∈ ev_T := ev_at 763 (by decide +kernel) (by decide +kernel)
set_option maxRecDepth 20000 in
theorem kMo_waste : ev_ok mMo_waste 2 := ⟨ev_at 768 rfl rfl, ev_at 46 (by decide +kernel) (by decide +kernel), by decide +kernel, by decide +kernel, by decide⟩
theorem vMo_waste : Cond.instanceMethod mMo_waste.1 ∈ ev_T := ev_at 766 (by decide +kernel) (by decide +kernel)
theorem wMo_waste : Cond.selects mMo_waste.1.cls mMo_waste.1 mMo_waste.1 ∈ ev_T := ev_at 767 (by decide +kernel) (by decide +kernel)
set_option maxRecDepth 20000 in
theorem kMo_hold : ev_ok mMo_hold 2 := ⟨ev_at 773 rfl rfl, ev_at 46 (by decide +kernel) (by decide +kernel), by decide +kernel, by decide +kernel, by decide⟩
theorem vMo_hold : Cond.instanceMethod mMo_hold.1 ∈ ev_T := ev_at 771 (by decide +kernel) (by decide +kernel)
theorem wMo_hold : Cond.selects mMo_hold.1.cls mMo_hold.1 mMo_hold.1 ∈ ev_T := ev_at 772 (by decide +kernel) (by decide +kernel)
set_option maxRecDepth 20000 in
theorem kMo_correct : ev_ok mMo_correct 2 := ⟨ev_at 777 rfl rfl, ev_at 46 (by decide +kernel) (by decide +kernel), by decide +kernel, by decide +kernel, by decide⟩
theorem vMo_correct : Cond.instanceMethod mMo_correct.1 ∈ ev_T := ev_at 775 (by decide +kernel) (by decide +kernel)
theorem wMo_correct : Cond.selects mMo_correct.1.cls mMo_correct.1 mMo_correct.1 ∈ ev_T := ev_at 776 (by decide +kernel) (by decide +kernel)
set_option maxRecDepth 20000 in
theorem kMo_told : ev_ok mMo_told 2 := ⟨ev_at 781 rfl rfl, ev_at 46 (by decide +kernel) (by decide +kernel), by decide +kernel, by decide +kernel, by decide⟩
theorem vMo_told : Cond.instanceMethod mMo_told.1 ∈ ev_T := ev_at 779 (by decide +kernel) (by decide +kernel)
theorem wMo_told : Cond.selects mMo_told.1.cls mMo_told.1 mMo_told.1 ∈ ev_T := ev_at 780 (by decide +kernel) (by decide +kernel)
set_option maxRecDepth 20000 in
theorem kMo_layer : ev_ok mMo_layer 3 := ⟨ev_at 785 rfl rfl, ev_at 46 (by decide +kernel) (by decide +kernel), by decide +kernel, by decide +kernel, by decide⟩
theorem vMo_layer : Cond.instanceMethod mMo_layer.1 ∈ ev_T := ev_at 783 (by decide +kernel) (by decide +kernel)
theorem wMo_layer : Cond.selects mMo_layer.1.cls mMo_layer.1 mMo_layer.1 ∈ ev_T := ev_at 784 (by decide +kernel) (by decide +kernel)
set_option maxRecDepth 20000 in
theorem kMo_share : ev_ok mMo_share 3 := ⟨ev_at 789 rfl rfl, ev_at 46 (by decide +kernel) (by decide +kernel), by decide +kernel, by decide +kernel, by decide⟩
theorem vMo_share : Cond.instanceMethod mMo_share.1 ∈ ev_T := ev_at 787 (by decide +kernel) (by decide +kernel)
theorem wMo_share : Cond.selects mMo_share.1.cls mMo_share.1 mMo_share.1 ∈ ev_T := ev_at 788 (by decide +kernel) (by decide +kernel)
set_option maxRecDepth 20000 in
theorem kMo_gramsFrom : ev_ok mMo_gramsFrom 2 := ⟨ev_at 793 rfl rfl, ev_at 46 (by decide +kernel) (by decide +kernel), by decide +kernel, by decide +kernel, by decide⟩
theorem vMo_gramsFrom : Cond.instanceMethod mMo_gramsFrom.1 ∈ ev_T := ev_at 792 (by decide +kernel) (by decide +kernel)
theorem wMo_gramsFrom : Cond.selects mMo_gramsFrom.1.cls mMo_gramsFrom.1 mMo_gramsFrom.1 ∈ ev_T := ev_at 26 (by decide +kernel) (by decide +kernel)
set_option maxRecDepth 20000 in
theorem kMo_back : ev_ok mMo_back 2 := ⟨ev_at 797 rfl rfl, ev_at 46 (by decide +kernel) (by decide +kernel), by decide +kernel, by decide +kernel, by decide⟩
theorem vMo_back : Cond.instanceMethod mMo_back.1 ∈ ev_T := ev_at 795 (by decide +kernel) (by decide +kernel)
theorem wMo_back : Cond.selects mMo_back.1.cls mMo_back.1 mMo_back.1 ∈ ev_T := ev_at 796 (by decide +kernel) (by decide +kernel)
set_option maxRecDepth 20000 in
theorem kMo_recall : ev_ok mMo_recall 1 := ⟨ev_at 801 rfl rfl, ev_at 46 (by decide +kernel) (by decide +kernel), by decide +kernel, by decide +kernel, by decide⟩
theorem vMo_recall : Cond.instanceMethod mMo_recall.1 ∈ ev_T := ev_at 799 (by decide +kernel) (by decide +kernel)
theorem wMo_recall : Cond.selects mMo_recall.1.cls mMo_recall.1 mMo_recall.1 ∈ ev_T := ev_at 800 (by decide +kernel) (by decide +kernel)
set_option maxRecDepth 20000 in
theorem kMo_boxesOf : ev_ok mMo_boxesOf 2 := ⟨ev_at 805 rfl rfl, ev_at 46 (by decide +kernel) (by decide +kernel), by decide +kernel, by decide +kernel, by decide⟩
theorem vMo_boxesOf : Cond.instanceMethod mMo_boxesOf.1 ∈ ev_T := ev_at 804 (by decide +kernel) (by decide +kernel)
theorem wMo_boxesOf : Cond.selects mMo_boxesOf.1.cls mMo_boxesOf.1 mMo_boxesOf.1 ∈ ev_T := ev_at 27 (by decide +kernel) (by decide +kernel)
set_option maxRecDepth 20000 in
theorem kMo_recalled : ev_ok mMo_recalled 2 := ⟨ev_at 809 rfl rfl, ev_at 46 (by decide +kernel) (by decide +kernel), by decide +kernel, by decide +kernel, by decide⟩
theorem vMo_recalled : Cond.instanceMethod mMo_recalled.1 ∈ ev_T := ev_at 807 (by decide +kernel) (by decide +kernel)
theorem wMo_recalled : Cond.selects mMo_recalled.1.cls mMo_recalled.1 mMo_recalled.1 ∈ ev_T := ev_at 808 (by decide +kernel) (by decide +kernel)
set_option maxRecDepth 20000 in
theorem kMo_doubled : ev_ok mMo_doubled 1 := ⟨ev_at 813 rfl rfl, ev_at 46 (by decide +kernel) (by decide +kernel), by decide +kernel, by decide +kernel, by decide⟩
theorem vMo_doubled : Cond.instanceMethod mMo_doubled.1 ∈ ev_T := ev_at 811 (by decide +kernel) (by decide +kernel)
theorem wMo_doubled : Cond.selects mMo_doubled.1.cls mMo_doubled.1 mMo_doubled.1 ∈ ev_T := ev_at 812 (by decide +kernel) (by decide +kernel)
set_option maxRecDepth 20000 in
theorem kMo_unit : ev_ok mMo_unit 1 := ⟨ev_at 817 rfl rfl, ev_at 46 (by decide +kernel) (by decide +kernel), by decide +kernel, by decide +kernel, by decide⟩
theorem vMo_unit : Cond.instanceMethod mMo_unit.1 ∈ ev_T := ev_at 815 (by decide +kernel) (by decide +kernel)
theorem wMo_unit : Cond.selects mMo_unit.1.cls mMo_unit.1 mMo_unit.1 ∈ ev_T := ev_at 816 (by decide +kernel) (by decide +kernel)
set_option maxRecDepth 20000 in
theorem kMo_names : ev_ok mMo_names 0 := ⟨ev_at 821 rfl rfl, ev_at 46 (by decide +kernel) (by decide +kernel), by decide +kernel, by decide +kernel, by decide⟩
theorem vMo_names : Cond.instanceMethod mMo_names.1 ∈ ev_T := ev_at 819 (by decide +kernel) (by decide +kernel)
theorem wMo_names : Cond.selects mMo_names.1.cls mMo_names.1 mMo_names.1 ∈ ev_T := ev_at 820 (by decide +kernel) (by decide +kernel)
set_option maxRecDepth 20000 in
theorem kMo_skip : ev_ok mMo_skip 0 := ⟨ev_at 825 rfl rfl, ev_at 46 (by decide +kernel) (by decide +kernel), by decide +kernel, by decide +kernel, by decide⟩
theorem vMo_skip : Cond.instanceMethod mMo_skip.1 ∈ ev_T := ev_at 824 (by decide +kernel) (by decide +kernel)
theorem wMo_skip : Cond.selects mMo_skip.1.cls mMo_skip.1 mMo_skip.1 ∈ ev_T := ev_at 28 (by decide +kernel) (by decide +kernel)
set_option maxRecDepth 20000 in
theorem kMo_number : ev_ok mMo_number 2 := ⟨ev_at 830 rfl rfl, ev_at 46 (by decide +kernel) (by decide +kernel), by decide +kernel, by decide +kernel, by decide⟩
theorem vMo_number : Cond.instanceMethod mMo_number.1 ∈ ev_T := ev_at 829 (by decide +kernel) (by decide +kernel)
theorem wMo_number : Cond.selects mMo_number.1.cls mMo_number.1 mMo_number.1 ∈ ev_T := ev_at 29 (by decide +kernel) (by decide +kernel)
set_option maxRecDepth 20000 in
theorem kMo_isDigit : ev_ok mMo_isDigit 1 := ⟨ev_at 834 rfl rfl, ev_at 46 (by decide +kernel) (by decide +kernel), by decide +kernel, by decide +kernel, by decide⟩
theorem vMo_isDigit : Cond.instanceMethod mMo_isDigit.1 ∈ ev_T := ev_at 833 (by decide +kernel) (by decide +kernel)
theorem wMo_isDigit : Cond.selects mMo_isDigit.1.cls mMo_isDigit.1 mMo_isDigit.1 ∈ ev_T := ev_at 30 (by decide +kernel) (by decide +kernel)
set_option maxRecDepth 20000 in
theorem kMo_sign : ev_ok mMo_sign 1 := ⟨ev_at 838 rfl rfl, ev_at 46 (by decide +kernel) (by decide +kernel), by decide +kernel, by decide +kernel, by decide⟩
theorem vMo_sign : Cond.instanceMethod mMo_sign.1 ∈ ev_T := ev_at 837 (by decide +kernel) (by decide +kernel)
theorem wMo_sign : Cond.selects mMo_sign.1.cls mMo_sign.1 mMo_sign.1 ∈ ev_T := ev_at 31 (by decide +kernel) (by decide +kernel)
set_option maxRecDepth 20000 in
theorem kMo_name : ev_ok mMo_name 3 := ⟨ev_at 843 rfl rfl, ev_at 46 (by decide +kernel) (by decide +kernel), by decide +kernel, by decide +kernel, by decide⟩
theorem vMo_name : Cond.instanceMethod mMo_name.1 ∈ ev_T := ev_at 841 (by decide +kernel) (by decide +kernel)
theorem wMo_name : Cond.selects mMo_name.1.cls mMo_name.1 mMo_name.1 ∈ ev_T := ev_at 842 (by decide +kernel) (by decide +kernel)
set_option maxRecDepth 20000 in
theorem kMo_certificate : ev_ok mMo_certificate 1 := ⟨ev_at 847 rfl rfl, ev_at 46 (by decide +kernel) (by decide +kernel), by decide +kernel, by decide +kernel, by decide⟩
theorem vMo_certificate : Cond.instanceMethod mMo_certificate.1 ∈ ev_T := ev_at 845 (by decide +kernel) (by decide +kernel)
theorem wMo_certificate : Cond.selects mMo_certificate.1.cls mMo_certificate.1 mMo_certificate.1 ∈ ev_T := ev_at 846 (by decide +kernel) (by decide +kernel)
set_option maxRecDepth 20000 in
theorem kMo_credit : ev_ok mMo_credit 3 := ⟨ev_at 851 rfl rfl, ev_at 46 (by decide +kernel) (by decide +kernel), by decide +kernel, by decide +kernel, by decide⟩
theorem vMo_credit : Cond.instanceMethod mMo_credit.1 ∈ ev_T := ev_at 849 (by decide +kernel) (by decide +kernel)
theorem wMo_credit : Cond.selects mMo_credit.1.cls mMo_credit.1 mMo_credit.1 ∈ ev_T := ev_at 850 (by decide +kernel) (by decide +kernel)
set_option maxRecDepth 20000 in
theorem kMo_mayAct : ev_ok mMo_mayAct 3 := ⟨ev_at 855 rfl rfl, ev_at 46 (by decide +kernel) (by decide +kernel), by decide +kernel, by decide +kernel, by decide⟩
theorem vMo_mayAct : Cond.instanceMethod mMo_mayAct.1 ∈ ev_T := ev_at 854 (by decide +kernel) (by decide +kernel)
theorem wMo_mayAct : Cond.selects mMo_mayAct.1.cls mMo_mayAct.1 mMo_mayAct.1 ∈ ev_T := ev_at 32 (by decide +kernel) (by decide +kernel)
set_option maxRecDepth 20000 in
theorem kMo_act : ev_ok mMo_act 3 := ⟨ev_at 859 rfl rfl, ev_at 46 (by decide +kernel) (by decide +kernel), by decide +kernel, by decide +kernel, by decide⟩
theorem vMo_act : Cond.instanceMethod mMo_act.1 ∈ ev_T := ev_at 858 (by decide +kernel) (by decide +kernel)
theorem wMo_act : Cond.selects mMo_act.1.cls mMo_act.1 mMo_act.1 ∈ ev_T := ev_at 33 (by decide +kernel) (by decide +kernel)
set_option maxRecDepth 20000 in
theorem kMo_claim : ev_ok mMo_claim 3 := ⟨ev_at 863 rfl rfl, ev_at 46 (by decide +kernel) (by decide +kernel), by decide +kernel, by decide +kernel, by decide⟩
theorem vMo_claim : Cond.instanceMethod mMo_claim.1 ∈ ev_T := ev_at 861 (by decide +kernel) (by decide +kernel)
theorem wMo_claim : Cond.selects mMo_claim.1.cls mMo_claim.1 mMo_claim.1 ∈ ev_T := ev_at 862 (by decide +kernel) (by decide +kernel)
set_option maxRecDepth 20000 in
theorem kMo_balanceOf : ev_ok mMo_balanceOf 2 := ⟨ev_at 867 rfl rfl, ev_at 46 (by decide +kernel) (by decide +kernel), by decide +kernel, by decide +kernel, by decide⟩
theorem vMo_balanceOf : Cond.instanceMethod mMo_balanceOf.1 ∈ ev_T := ev_at 866 (by decide +kernel) (by decide +kernel)
theorem wMo_balanceOf : Cond.selects mMo_balanceOf.1.cls mMo_balanceOf.1 mMo_balanceOf.1 ∈ ev_T := ev_at 34 (by decide +kernel) (by decide +kernel)
set_option maxRecDepth 20000 in
theorem kMo_balance : ev_ok mMo_balance 2 := ⟨ev_at 871 rfl rfl, ev_at 46 (by decide +kernel) (by decide +kernel), by decide +kernel, by decide +kernel, by decide⟩
theorem vMo_balance : Cond.instanceMethod mMo_balance.1 ∈ ev_T := ev_at 869 (by decide +kernel) (by decide +kernel)
theorem wMo_balance : Cond.selects mMo_balance.1.cls mMo_balance.1 mMo_balance.1 ∈ ev_T := ev_at 870 (by decide +kernel) (by decide +kernel)
set_option maxRecDepth 20000 in
theorem kMo_warm : ev_ok mMo_warm 2 := ⟨ev_at 875 rfl rfl, ev_at 46 (by decide +kernel) (by decide +kernel), by decide +kernel, by decide +kernel, by decide⟩
theorem vMo_warm : Cond.instanceMethod mMo_warm.1 ∈ ev_T := ev_at 873 (by decide +kernel) (by decide +kernel)
theorem wMo_warm : Cond.selects mMo_warm.1.cls mMo_warm.1 mMo_warm.1 ∈ ev_T := ev_at 874 (by decide +kernel) (by decide +kernel)
set_option maxRecDepth 20000 in
theorem kMo_paper : ev_ok mMo_paper 3 := ⟨ev_at 879 rfl rfl, ev_at 46 (by decide +kernel) (by decide +kernel), by decide +kernel, by decide +kernel, by decide⟩
theorem vMo_paper : Cond.instanceMethod mMo_paper.1 ∈ ev_T := ev_at 877 (by decide +kernel) (by decide +kernel)
theorem wMo_paper : Cond.selects mMo_paper.1.cls mMo_paper.1 mMo_paper.1 ∈ ev_T := ev_at 878 (by decide +kernel) (by decide +kernel)
set_option maxRecDepth 20000 in
theorem kMo_writeNumber : ev_ok mMo_writeNumber 1 := ⟨ev_at 883 rfl rfl, ev_at 46 (by decide +kernel) (by decide +kernel), by decide +kernel, by decide +kernel, by decide⟩
theorem vMo_writeNumber : Cond.instanceMethod mMo_writeNumber.1 ∈ ev_T := ev_at 882 (by decide +kernel) (by decide +kernel)
theorem wMo_writeNumber : Cond.selects mMo_writeNumber.1.cls mMo_writeNumber.1 mMo_writeNumber.1 ∈ ev_T := ev_at 35 (by decide +kernel) (by decide +kernel)
set_option maxRecDepth 20000 in
theorem kMo_write : ev_ok mMo_write 1 := ⟨ev_at 889 rfl rfl, ev_at 46 (by decide +kernel) (by decide +kernel), by decide +kernel, by decide +kernel, by decide⟩
theorem vMo_write : Cond.instanceMethod mMo_write.1 ∈ ev_T := ev_at 888 (by decide +kernel) (by decide +kernel)
theorem wMo_write : Cond.selects mMo_write.1.cls mMo_write.1 mMo_write.1 ∈ ev_T := ev_at 36 (by decide +kernel) (by decide +kernel)
set_option maxRecDepth 20000 in
theorem kMo_all : ev_ok mMo_all 1 := ⟨ev_at 893 rfl rfl, ev_at 46 (by decide +kernel) (by decide +kernel), by decide +kernel, by decide +kernel, by decide⟩
theorem vMo_all : Cond.instanceMethod mMo_all.1 ∈ ev_T := ev_at 891 (by decide +kernel) (by decide +kernel)
theorem wMo_all : Cond.selects mMo_all.1.cls mMo_all.1 mMo_all.1 ∈ ev_T := ev_at 892 (by decide +kernel) (by decide +kernel)
set_option maxRecDepth 20000 in
theorem kMo_allIn : ev_ok mMo_allIn 1 := ⟨ev_at 897 rfl rfl, ev_at 46 (by decide +kernel) (by decide +kernel), by decide +kernel, by decide +kernel, by decide⟩
theorem vMo_allIn : Cond.instanceMethod mMo_allIn.1 ∈ ev_T := ev_at 896 (by decide +kernel) (by decide +kernel)
theorem wMo_allIn : Cond.selects mMo_allIn.1.cls mMo_allIn.1 mMo_allIn.1 ∈ ev_T := ev_at 37 (by decide +kernel) (by decide +kernel)
theorem ob_1 : Cond.instanceMethod Lib.objectInit ∈ ev_T := ev_at 55 (by decide +kernel) (by decide +kernel)
theorem ob_2 : Cond.code Lib.objectInit ⟨#[0xb1]⟩ 1 none ∈ ev_T := ev_at 56 (by decide +kernel) (by decide +kernel)
theorem ma_max_1 : Cond.static Lib.Math.max.name ∈ ev_T := ev_at 83 (by decide +kernel) (by decide +kernel)
theorem ma_max_2 : Cond.code Lib.Math.max.name Lib.Math.max.code 2 (some .int) ∈ ev_T := ev_at 84 (by decide +kernel) (by decide +kernel)
theorem ma_minl_1 : Cond.static Lib.MathLoose.min_long.x ∈ ev_T := ev_at 298 (by decide +kernel) (by decide +kernel)
theorem ma_minl_2 : Cond.code Lib.MathLoose.min_long.x Lib.MathLoose.min_long.code 4 (some .long) ∈ ev_T := ev_at 299 (by decide +kernel) (by decide +kernel)
theorem ma_i : Cond.initialized "java/lang/Math" ∈ ev_T := ev_at 43 (by decide +kernel) (by decide +kernel)
theorem lBL_3 : Cond.methodLink "BatchLinks" 3 Lib.objectInit ∈ ev_T := ev_at 54 (by decide +kernel) (by decide +kernel)
theorem lBL_21 : ("BatchLinks", 21, (mTa_init).1, "BatchLinks") ∈ ev_nm := by decide +kernel
theorem lBL_31 : ("BatchLinks", 31, (mNa_init).1, "BatchLinks") ∈ ev_nm := by decide +kernel
theorem lBL_38 : ("BatchLinks", 38, (mRu_init).1, "BatchLinks") ∈ ev_nm := by decide +kernel
theorem lBL_48 : ("BatchLinks", 48, (mLe_init).1, "BatchLinks") ∈ ev_nm := by decide +kernel
theorem lBL_55 : Cond.methodLink "BatchLinks" 55 (mBy_init).1 ∈ ev_T := ev_at 151 (by decide +kernel) (by decide +kernel)
theorem lBL_62 : Cond.methodLink "BatchLinks" 62 (mBL_isWeight).1 ∈ ev_T := ev_at 184 (by decide +kernel) (by decide +kernel)
theorem lBL_66 : Cond.methodLink "BatchLinks" 66 (mBL_isWithin).1 ∈ ev_T := ev_at 188 (by decide +kernel) (by decide +kernel)
theorem lBL_71 : Cond.methodLink "BatchLinks" 71 (mBL_isFull).1 ∈ ev_T := ev_at 192 (by decide +kernel) (by decide +kernel)
theorem lBL_75 : Cond.methodLink "BatchLinks" 75 (mTh_init).1 ∈ ev_T := ev_at 197 (by decide +kernel) (by decide +kernel)
theorem lBL_86 : Cond.methodLink "BatchLinks" 86 (mLa_append).1 ∈ ev_T := ev_at 249 (by decide +kernel) (by decide +kernel)
theorem lBL_92 : Cond.methodLink "BatchLinks" 92 (mBL_keep).1 ∈ ev_T := ev_at 253 (by decide +kernel) (by decide +kernel)
theorem lBL_96 : Cond.methodLink "BatchLinks" 96 (mBL_find).1 ∈ ev_T := ev_at 265 (by decide +kernel) (by decide +kernel)
theorem lBL_107 : Cond.methodLink "BatchLinks" 107 (mLa_have).1 ∈ ev_T := ev_at 269 (by decide +kernel) (by decide +kernel)
theorem lBL_110 : Cond.methodLink "BatchLinks" 110 (mLa_sizeWith).1 ∈ ev_T := ev_at 277 (by decide +kernel) (by decide +kernel)
theorem lBL_114 : Cond.methodLink "BatchLinks" 114 (mTh_takeFrom).1 ∈ ev_T := ev_at 289 (by decide +kernel) (by decide +kernel)
theorem lBL_118 : Cond.methodLink "BatchLinks" 118 (mLa_sizeOf).1 ∈ ev_T := ev_at 314 (by decide +kernel) (by decide +kernel)
theorem lBL_124 : Cond.methodLink "BatchLinks" 124 (mLa_dropFront).1 ∈ ev_T := ev_at 320 (by decide +kernel) (by decide +kernel)
theorem lBL_131 : Cond.methodLink "BatchLinks" 131 (mBL_findHaul).1 ∈ ev_T := ev_at 329 (by decide +kernel) (by decide +kernel)
theorem lBL_134 : Cond.methodLink "BatchLinks" 134 (mLa_total).1 ∈ ev_T := ev_at 333 (by decide +kernel) (by decide +kernel)
theorem lBL_138 : Cond.methodLink "BatchLinks" 138 (mLa_clear).1 ∈ ev_T := ev_at 334 (by decide +kernel) (by decide +kernel)
theorem lBL_141 : Cond.methodLink "BatchLinks" 141 (mTh_fact).1 ∈ ev_T := ev_at 342 (by decide +kernel) (by decide +kernel)
theorem lBL_145 : Cond.methodLink "BatchLinks" 145 (mLa_haulAt).1 ∈ ev_T := ev_at 356 (by decide +kernel) (by decide +kernel)
theorem lBL_149 : Cond.methodLink "BatchLinks" 149 (mLa_gramsAt).1 ∈ ev_T := ev_at 357 (by decide +kernel) (by decide +kernel)
theorem lBL_152 : Cond.methodLink "BatchLinks" 152 (mLa_gramsOf).1 ∈ ev_T := ev_at 366 (by decide +kernel) (by decide +kernel)
theorem lBL_155 : Cond.methodLink "BatchLinks" 155 (mBL_greatestDivisor).1 ∈ ev_T := ev_at 370 (by decide +kernel) (by decide +kernel)
theorem lBL_159 : Cond.methodLink "BatchLinks" 159 (mTa_clear).1 ∈ ev_T := ev_at 377 (by decide +kernel) (by decide +kernel)
theorem lBL_160 : Cond.methodLink "BatchLinks" 160 (mLa_size).1 ∈ ev_T := ev_at 381 (by decide +kernel) (by decide +kernel)
theorem lBL_164 : Cond.methodLink "BatchLinks" 164 (mTa_count).1 ∈ ev_T := ev_at 382 (by decide +kernel) (by decide +kernel)
theorem lBL_167 : Cond.methodLink "BatchLinks" 167 (mTa_pick).1 ∈ ev_T := ev_at 386 (by decide +kernel) (by decide +kernel)
theorem lBL_170 : Cond.methodLink "BatchLinks" 170 (mBL_countBoxesWith).1 ∈ ev_T := ev_at 394 (by decide +kernel) (by decide +kernel)
theorem lBL_173 : Cond.methodLink "BatchLinks" 173 (mTa_countedAtLeast).1 ∈ ev_T := ev_at 398 (by decide +kernel) (by decide +kernel)
theorem lBL_176 : Cond.methodLink "BatchLinks" 176 (mNa_put).1 ∈ ev_T := ev_at 414 (by decide +kernel) (by decide +kernel)
theorem lBL_180 : Cond.methodLink "BatchLinks" 180 (mNa_read).1 ∈ ev_T := ev_at 426 (by decide +kernel) (by decide +kernel)
theorem lBL_184 : Cond.methodLink "BatchLinks" 184 (mNa_clear).1 ∈ ev_T := ev_at 480 (by decide +kernel) (by decide +kernel)
theorem lBL_185 : Cond.methodLink "BatchLinks" 185 (mRu_size).1 ∈ ev_T := ev_at 488 (by decide +kernel) (by decide +kernel)
theorem lBL_186 : Cond.methodLink "BatchLinks" 186 (mRu_inForce).1 ∈ ev_T := ev_at 496 (by decide +kernel) (by decide +kernel)
theorem lBL_193 : Cond.methodLink "BatchLinks" 193 (mRu_allows).1 ∈ ev_T := ev_at 500 (by decide +kernel) (by decide +kernel)
theorem lBL_196 : Cond.methodLink "BatchLinks" 196 (mLe_open).1 ∈ ev_T := ev_at 508 (by decide +kernel) (by decide +kernel)
theorem lBL_199 : Cond.methodLink "BatchLinks" 199 (mBL_canEnter).1 ∈ ev_T := ev_at 516 (by decide +kernel) (by decide +kernel)
theorem lBL_203 : Cond.methodLink "BatchLinks" 203 (mLe_enter).1 ∈ ev_T := ev_at 528 (by decide +kernel) (by decide +kernel)
theorem lBL_207 : Cond.methodLink "BatchLinks" 207 (mLe_isOver).1 ∈ ev_T := ev_at 537 (by decide +kernel) (by decide +kernel)
theorem lBL_210 : Cond.methodLink "BatchLinks" 210 (mLe_covers).1 ∈ ev_T := ev_at 542 (by decide +kernel) (by decide +kernel)
theorem lBL_213 : Cond.methodLink "BatchLinks" 213 (mLe_has).1 ∈ ev_T := ev_at 520 (by decide +kernel) (by decide +kernel)
theorem lBL_216 : Cond.methodLink "BatchLinks" 216 (mLe_sumUpTo).1 ∈ ev_T := ev_at 554 (by decide +kernel) (by decide +kernel)
theorem lBL_223 : Cond.methodLink "BatchLinks" 223 Lib.Math.max.name ∈ ev_T := ev_at 559 (by decide +kernel) (by decide +kernel)
theorem lBL_228 : Cond.methodLink "BatchLinks" 228 (mBy_clear).1 ∈ ev_T := ev_at 564 (by decide +kernel) (by decide +kernel)
theorem lBL_229 : Cond.methodLink "BatchLinks" 229 (mBy_putNumber).1 ∈ ev_T := ev_at 565 (by decide +kernel) (by decide +kernel)
theorem lBL_232 : Cond.methodLink "BatchLinks" 232 (mBy_put).1 ∈ ev_T := ev_at 573 (by decide +kernel) (by decide +kernel)
theorem lBL_233 : Cond.methodLink "BatchLinks" 233 (mBy_byteAt).1 ∈ ev_T := ev_at 574 (by decide +kernel) (by decide +kernel)
theorem lBL_236 : Cond.methodLink "BatchLinks" 236 (mBL_sumOfFact).1 ∈ ev_T := ev_at 579 (by decide +kernel) (by decide +kernel)
theorem lBL_239 : Cond.methodLink "BatchLinks" 239 (mBL_sumInside).1 ∈ ev_T := ev_at 583 (by decide +kernel) (by decide +kernel)
theorem lBL_242 : Cond.methodLink "BatchLinks" 242 (mLe_size).1 ∈ ev_T := ev_at 587 (by decide +kernel) (by decide +kernel)
theorem lBL_245 : Cond.methodLink "BatchLinks" 245 (mLe_isFull).1 ∈ ev_T := ev_at 524 (by decide +kernel) (by decide +kernel)
theorem lBy_3 : Cond.methodLink "BatchLinks$Bytes" 3 Lib.objectInit ∈ ev_T := ev_at 81 (by decide +kernel) (by decide +kernel)
theorem lBy_9 : Cond.methodLink "BatchLinks$Bytes" 9 Lib.Math.max.name ∈ ev_T := ev_at 82 (by decide +kernel) (by decide +kernel)
theorem lBy_25 : Cond.methodLink "BatchLinks$Bytes" 25 (mBy_digitsOf).1 ∈ ev_T := ev_at 569 (by decide +kernel) (by decide +kernel)
theorem lLa_3 : Cond.methodLink "BatchLinks$Layers" 3 Lib.objectInit ∈ ev_T := ev_at 206 (by decide +kernel) (by decide +kernel)
theorem lLa_25 : Cond.methodLink "BatchLinks$Layers" 25 (mLa_total).1 ∈ ev_T := ev_at 273 (by decide +kernel) (by decide +kernel)
theorem lLa_29 : Cond.methodLink "BatchLinks$Layers" 29 (mLa_sizeOf).1 ∈ ev_T := ev_at 281 (by decide +kernel) (by decide +kernel)
theorem lLa_33 : Cond.methodLink "BatchLinks$Layers" 33 (mLa_haulAt).1 ∈ ev_T := ev_at 285 (by decide +kernel) (by decide +kernel)
theorem lLa_37 : Cond.methodLink "BatchLinks$Layers" 37 Lib.MathLoose.min_long.x ∈ ev_T := ev_at 297 (by decide +kernel) (by decide +kernel)
theorem lLa_43 : Cond.methodLink "BatchLinks$Layers" 43 (mLa_append).1 ∈ ev_T := ev_at 300 (by decide +kernel) (by decide +kernel)
theorem lLa_47 : Cond.methodLink "BatchLinks$Layers" 47 (mLa_dropLayers).1 ∈ ev_T := ev_at 305 (by decide +kernel) (by decide +kernel)
theorem lLe_3 : Cond.methodLink "BatchLinks$Ledger" 3 Lib.objectInit ∈ ev_T := ev_at 129 (by decide +kernel) (by decide +kernel)
theorem lLe_32 : Cond.methodLink "BatchLinks$Ledger" 32 (mLe_has).1 ∈ ev_T := ev_at 541 (by decide +kernel) (by decide +kernel)
theorem lLe_36 : Cond.methodLink "BatchLinks$Ledger" 36 (mLe_isFull).1 ∈ ev_T := ev_at 532 (by decide +kernel) (by decide +kernel)
theorem lLe_40 : Cond.methodLink "BatchLinks$Ledger" 40 (mLe_sumUpTo).1 ∈ ev_T := ev_at 546 (by decide +kernel) (by decide +kernel)
theorem lRu_3 : Cond.methodLink "BatchLinks$Rules" 3 Lib.objectInit ∈ ev_T := ev_at 107 (by decide +kernel) (by decide +kernel)
theorem lRu_28 : Cond.methodLink "BatchLinks$Rules" 28 (mRu_isFull).1 ∈ ev_T := ev_at 479 (by decide +kernel) (by decide +kernel)
theorem lTa_3 : Cond.methodLink "BatchLinks$Tally" 3 Lib.objectInit ∈ ev_T := ev_at 64 (by decide +kernel) (by decide +kernel)
theorem lNa_3 : Cond.methodLink "BatchLinks$Tape" 3 Lib.objectInit ∈ ev_T := ev_at 75 (by decide +kernel) (by decide +kernel)
theorem lNa_13 : Cond.methodLink "BatchLinks$Tape" 13 (mBy_init).1 ∈ ev_T := ev_at 78 (by decide +kernel) (by decide +kernel)
theorem lNa_20 : Cond.methodLink "BatchLinks$Tape" 20 (mBy_put).1 ∈ ev_T := ev_at 418 (by decide +kernel) (by decide +kernel)
theorem lNa_24 : Cond.methodLink "BatchLinks$Tape" 24 (mBy_clear).1 ∈ ev_T := ev_at 484 (by decide +kernel) (by decide +kernel)
theorem lNa_34 : Cond.methodLink "BatchLinks$Tape" 34 (mRu_clear).1 ∈ ev_T := ev_at 430 (by decide +kernel) (by decide +kernel)
theorem lNa_37 : Cond.methodLink "BatchLinks$Tape" 37 (mNa_skipBlanks).1 ∈ ev_T := ev_at 434 (by decide +kernel) (by decide +kernel)
theorem lNa_40 : Cond.methodLink "BatchLinks$Tape" 40 (mBy_size).1 ∈ ev_T := ev_at 446 (by decide +kernel) (by decide +kernel)
theorem lNa_44 : Cond.methodLink "BatchLinks$Tape" 44 (mNa_readRule).1 ∈ ev_T := ev_at 450 (by decide +kernel) (by decide +kernel)
theorem lNa_48 : Cond.methodLink "BatchLinks$Tape" 48 (mRu_isFull).1 ∈ ev_T := ev_at 454 (by decide +kernel) (by decide +kernel)
theorem lNa_52 : Cond.methodLink "BatchLinks$Tape" 52 (mNa_readNumber).1 ∈ ev_T := ev_at 458 (by decide +kernel) (by decide +kernel)
theorem lNa_56 : Cond.methodLink "BatchLinks$Tape" 56 (mNa_readSign).1 ∈ ev_T := ev_at 470 (by decide +kernel) (by decide +kernel)
theorem lNa_61 : Cond.methodLink "BatchLinks$Tape" 61 (mRu_add).1 ∈ ev_T := ev_at 475 (by decide +kernel) (by decide +kernel)
theorem lNa_65 : Cond.methodLink "BatchLinks$Tape" 65 (mNa_isDigit).1 ∈ ev_T := ev_at 462 (by decide +kernel) (by decide +kernel)
theorem lNa_68 : Cond.methodLink "BatchLinks$Tape" 68 (mBy_byteAt).1 ∈ ev_T := ev_at 442 (by decide +kernel) (by decide +kernel)
theorem lNa_72 : Cond.methodLink "BatchLinks$Tape" 72 (mNa_fail).1 ∈ ev_T := ev_at 466 (by decide +kernel) (by decide +kernel)
theorem lNa_75 : Cond.methodLink "BatchLinks$Tape" 75 (mNa_isBlank).1 ∈ ev_T := ev_at 438 (by decide +kernel) (by decide +kernel)
theorem lTh_3 : Cond.methodLink "BatchLinks$Thing" 3 Lib.objectInit ∈ ev_T := ev_at 200 (by decide +kernel) (by decide +kernel)
theorem lTh_23 : ("BatchLinks$Thing", 23, (mLa_init).1, "BatchLinks") ∈ ev_nm := by decide +kernel
theorem lTh_28 : Cond.methodLink "BatchLinks$Thing" 28 (mLa_appendFront).1 ∈ ev_T := ev_at 293 (by decide +kernel) (by decide +kernel)
theorem lTh_32 : Cond.methodLink "BatchLinks$Thing" 32 (mLa_dropFront).1 ∈ ev_T := ev_at 301 (by decide +kernel) (by decide +kernel)
theorem lTh_39 : Cond.methodLink "BatchLinks$Thing" 39 Lib.Math.max.name ∈ ev_T := ev_at 309 (by decide +kernel) (by decide +kernel)
theorem lTh_45 : Cond.methodLink "BatchLinks$Thing" 45 (mLa_total).1 ∈ ev_T := ev_at 346 (by decide +kernel) (by decide +kernel)
theorem lTh_49 : Cond.methodLink "BatchLinks$Thing" 49 (mLa_size).1 ∈ ev_T := ev_at 347 (by decide +kernel) (by decide +kernel)
theorem lLw_9 : Cond.methodLink "BatchLinksLaw" 9 (mBL_init).1 ∈ ev_T := ev_at 51 (by decide +kernel) (by decide +kernel)
theorem lLw_12 : Cond.methodLink "BatchLinksLaw" 12 (mMo_init).1 ∈ ev_T := ev_at 593 (by decide +kernel) (by decide +kernel)
theorem lLw_15 : Cond.methodLink "BatchLinksLaw" 15 (mBL_haul).1 ∈ ev_T := ev_at 180 (by decide +kernel) (by decide +kernel)
theorem lLw_19 : Cond.methodLink "BatchLinksLaw" 19 (mMo_haul).1 ∈ ev_T := ev_at 707 (by decide +kernel) (by decide +kernel)
theorem lLw_20 : Cond.methodLink "BatchLinksLaw" 20 (mBL_batch).1 ∈ ev_T := ev_at 257 (by decide +kernel) (by decide +kernel)
theorem lLw_24 : Cond.methodLink "BatchLinksLaw" 24 (mMo_batch).1 ∈ ev_T := ev_at 717 (by decide +kernel) (by decide +kernel)
theorem lLw_25 : Cond.methodLink "BatchLinksLaw" 25 (mBL_into).1 ∈ ev_T := ev_at 261 (by decide +kernel) (by decide +kernel)
theorem lLw_29 : Cond.methodLink "BatchLinksLaw" 29 (mMo_into).1 ∈ ev_T := ev_at 721 (by decide +kernel) (by decide +kernel)
theorem lLw_30 : Cond.methodLink "BatchLinksLaw" 30 (mBL_box).1 ∈ ev_T := ev_at 310 (by decide +kernel) (by decide +kernel)
theorem lLw_34 : Cond.methodLink "BatchLinksLaw" 34 (mMo_box).1 ∈ ev_T := ev_at 761 (by decide +kernel) (by decide +kernel)
theorem lLw_35 : Cond.methodLink "BatchLinksLaw" 35 (mBL_waste).1 ∈ ev_T := ev_at 315 (by decide +kernel) (by decide +kernel)
theorem lLw_39 : Cond.methodLink "BatchLinksLaw" 39 (mMo_waste).1 ∈ ev_T := ev_at 765 (by decide +kernel) (by decide +kernel)
theorem lLw_40 : Cond.methodLink "BatchLinksLaw" 40 (mBL_hold).1 ∈ ev_T := ev_at 321 (by decide +kernel) (by decide +kernel)
theorem lLw_44 : Cond.methodLink "BatchLinksLaw" 44 (mMo_hold).1 ∈ ev_T := ev_at 770 (by decide +kernel) (by decide +kernel)
theorem lLw_45 : Cond.methodLink "BatchLinksLaw" 45 (mBL_correct).1 ∈ ev_T := ev_at 325 (by decide +kernel) (by decide +kernel)
theorem lLw_49 : Cond.methodLink "BatchLinksLaw" 49 (mMo_correct).1 ∈ ev_T := ev_at 774 (by decide +kernel) (by decide +kernel)
theorem lLw_50 : Cond.methodLink "BatchLinksLaw" 50 (mBL_told).1 ∈ ev_T := ev_at 338 (by decide +kernel) (by decide +kernel)
theorem lLw_54 : Cond.methodLink "BatchLinksLaw" 54 (mMo_told).1 ∈ ev_T := ev_at 778 (by decide +kernel) (by decide +kernel)
theorem lLw_55 : Cond.methodLink "BatchLinksLaw" 55 (mBL_layer).1 ∈ ev_T := ev_at 352 (by decide +kernel) (by decide +kernel)
theorem lLw_59 : Cond.methodLink "BatchLinksLaw" 59 (mMo_layer).1 ∈ ev_T := ev_at 782 (by decide +kernel) (by decide +kernel)
theorem lLw_60 : Cond.methodLink "BatchLinksLaw" 60 (mBL_share).1 ∈ ev_T := ev_at 362 (by decide +kernel) (by decide +kernel)
theorem lLw_63 : Cond.methodLink "BatchLinksLaw" 63 (mMo_share).1 ∈ ev_T := ev_at 786 (by decide +kernel) (by decide +kernel)
theorem lLw_64 : Cond.methodLink "BatchLinksLaw" 64 (mBL_back).1 ∈ ev_T := ev_at 373 (by decide +kernel) (by decide +kernel)
theorem lLw_68 : Cond.methodLink "BatchLinksLaw" 68 (mMo_back).1 ∈ ev_T := ev_at 794 (by decide +kernel) (by decide +kernel)
theorem lLw_69 : Cond.methodLink "BatchLinksLaw" 69 (mBL_recall).1 ∈ ev_T := ev_at 390 (by decide +kernel) (by decide +kernel)
theorem lLw_73 : Cond.methodLink "BatchLinksLaw" 73 (mMo_recall).1 ∈ ev_T := ev_at 798 (by decide +kernel) (by decide +kernel)
theorem lLw_74 : Cond.methodLink "BatchLinksLaw" 74 (mBL_recalled).1 ∈ ev_T := ev_at 402 (by decide +kernel) (by decide +kernel)
theorem lLw_77 : Cond.methodLink "BatchLinksLaw" 77 (mMo_recalled).1 ∈ ev_T := ev_at 806 (by decide +kernel) (by decide +kernel)
theorem lLw_78 : Cond.methodLink "BatchLinksLaw" 78 (mBL_doubled).1 ∈ ev_T := ev_at 406 (by decide +kernel) (by decide +kernel)
theorem lLw_81 : Cond.methodLink "BatchLinksLaw" 81 (mMo_doubled).1 ∈ ev_T := ev_at 810 (by decide +kernel) (by decide +kernel)
theorem lLw_82 : Cond.methodLink "BatchLinksLaw" 82 (mBL_unit).1 ∈ ev_T := ev_at 410 (by decide +kernel) (by decide +kernel)
theorem lLw_86 : Cond.methodLink "BatchLinksLaw" 86 (mMo_unit).1 ∈ ev_T := ev_at 814 (by decide +kernel) (by decide +kernel)
theorem lLw_87 : Cond.methodLink "BatchLinksLaw" 87 (mBL_names).1 ∈ ev_T := ev_at 422 (by decide +kernel) (by decide +kernel)
theorem lLw_90 : Cond.methodLink "BatchLinksLaw" 90 (mMo_names).1 ∈ ev_T := ev_at 818 (by decide +kernel) (by decide +kernel)
theorem lLw_91 : Cond.methodLink "BatchLinksLaw" 91 (mBL_name).1 ∈ ev_T := ev_at 492 (by decide +kernel) (by decide +kernel)
theorem lLw_95 : Cond.methodLink "BatchLinksLaw" 95 (mMo_name).1 ∈ ev_T := ev_at 840 (by decide +kernel) (by decide +kernel)
theorem lLw_96 : Cond.methodLink "BatchLinksLaw" 96 (mBL_certificate).1 ∈ ev_T := ev_at 504 (by decide +kernel) (by decide +kernel)
theorem lLw_99 : Cond.methodLink "BatchLinksLaw" 99 (mMo_certificate).1 ∈ ev_T := ev_at 844 (by decide +kernel) (by decide +kernel)
theorem lLw_100 : Cond.methodLink "BatchLinksLaw" 100 (mBL_credit).1 ∈ ev_T := ev_at 512 (by decide +kernel) (by decide +kernel)
theorem lLw_104 : Cond.methodLink "BatchLinksLaw" 104 (mMo_credit).1 ∈ ev_T := ev_at 848 (by decide +kernel) (by decide +kernel)
theorem lLw_105 : Cond.methodLink "BatchLinksLaw" 105 (mBL_claim).1 ∈ ev_T := ev_at 533 (by decide +kernel) (by decide +kernel)
theorem lLw_108 : Cond.methodLink "BatchLinksLaw" 108 (mMo_claim).1 ∈ ev_T := ev_at 860 (by decide +kernel) (by decide +kernel)
theorem lLw_109 : Cond.methodLink "BatchLinksLaw" 109 (mBL_balance).1 ∈ ev_T := ev_at 550 (by decide +kernel) (by decide +kernel)
theorem lLw_112 : Cond.methodLink "BatchLinksLaw" 112 (mMo_balance).1 ∈ ev_T := ev_at 868 (by decide +kernel) (by decide +kernel)
theorem lLw_113 : Cond.methodLink "BatchLinksLaw" 113 (mBL_warm).1 ∈ ev_T := ev_at 555 (by decide +kernel) (by decide +kernel)
theorem lLw_117 : Cond.methodLink "BatchLinksLaw" 117 (mMo_warm).1 ∈ ev_T := ev_at 872 (by decide +kernel) (by decide +kernel)
theorem lLw_118 : Cond.methodLink "BatchLinksLaw" 118 (mBL_paper).1 ∈ ev_T := ev_at 560 (by decide +kernel) (by decide +kernel)
theorem lLw_122 : Cond.methodLink "BatchLinksLaw" 122 (mMo_paper).1 ∈ ev_T := ev_at 876 (by decide +kernel) (by decide +kernel)
theorem lLw_123 : Cond.methodLink "BatchLinksLaw" 123 (mBL_all).1 ∈ ev_T := ev_at 575 (by decide +kernel) (by decide +kernel)
theorem lLw_127 : Cond.methodLink "BatchLinksLaw" 127 (mMo_all).1 ∈ ev_T := ev_at 890 (by decide +kernel) (by decide +kernel)
theorem lMo_1 : Cond.methodLink "BatchLinksModel" 1 Lib.objectInit ∈ ev_T := ev_at 596 (by decide +kernel) (by decide +kernel)
theorem lMo_94 : Cond.methodLink "BatchLinksModel" 94 (mMo_isThing).1 ∈ ev_T := ev_at 729 (by decide +kernel) (by decide +kernel)
theorem lMo_101 : Cond.methodLink "BatchLinksModel" 101 (mMo_make).1 ∈ ev_T := ev_at 713 (by decide +kernel) (by decide +kernel)
theorem lMo_108 : Cond.methodLink "BatchLinksModel" 108 (mMo_lay).1 ∈ ev_T := ev_at 749 (by decide +kernel) (by decide +kernel)
theorem lMo_112 : Cond.methodLink "BatchLinksModel" 112 (mMo_gramsIn).1 ∈ ev_T := ev_at 741 (by decide +kernel) (by decide +kernel)
theorem lMo_116 : Cond.methodLink "BatchLinksModel" 116 (mMo_isOf).1 ∈ ev_T := ev_at 725 (by decide +kernel) (by decide +kernel)
theorem lMo_120 : Cond.methodLink "BatchLinksModel" 120 (mMo_isSource).1 ∈ ev_T := ev_at 733 (by decide +kernel) (by decide +kernel)
theorem lMo_123 : Cond.methodLink "BatchLinksModel" 123 (mMo_has).1 ∈ ev_T := ev_at 737 (by decide +kernel) (by decide +kernel)
theorem lMo_127 : Cond.methodLink "BatchLinksModel" 127 (mMo_layBy).1 ∈ ev_T := ev_at 745 (by decide +kernel) (by decide +kernel)
theorem lMo_131 : Cond.methodLink "BatchLinksModel" 131 (mMo_putDown).1 ∈ ev_T := ev_at 753 (by decide +kernel) (by decide +kernel)
theorem lMo_135 : Cond.methodLink "BatchLinksModel" 135 (mMo_takeOut).1 ∈ ev_T := ev_at 757 (by decide +kernel) (by decide +kernel)
theorem lMo_140 : Cond.methodLink "BatchLinksModel" 140 (mMo_gramsFrom).1 ∈ ev_T := ev_at 790 (by decide +kernel) (by decide +kernel)
theorem lMo_144 : Cond.methodLink "BatchLinksModel" 144 (mMo_boxesOf).1 ∈ ev_T := ev_at 802 (by decide +kernel) (by decide +kernel)
theorem lMo_157 : Cond.methodLink "BatchLinksModel" 157 (mMo_skip).1 ∈ ev_T := ev_at 822 (by decide +kernel) (by decide +kernel)
theorem lMo_161 : Cond.methodLink "BatchLinksModel" 161 (mMo_isDigit).1 ∈ ev_T := ev_at 831 (by decide +kernel) (by decide +kernel)
theorem lMo_168 : Cond.methodLink "BatchLinksModel" 168 (mMo_number).1 ∈ ev_T := ev_at 827 (by decide +kernel) (by decide +kernel)
theorem lMo_171 : Cond.methodLink "BatchLinksModel" 171 (mMo_sign).1 ∈ ev_T := ev_at 835 (by decide +kernel) (by decide +kernel)
theorem lMo_184 : Cond.methodLink "BatchLinksModel" 184 (mMo_mayAct).1 ∈ ev_T := ev_at 852 (by decide +kernel) (by decide +kernel)
theorem lMo_188 : Cond.methodLink "BatchLinksModel" 188 (mMo_act).1 ∈ ev_T := ev_at 856 (by decide +kernel) (by decide +kernel)
theorem lMo_192 : Cond.methodLink "BatchLinksModel" 192 (mMo_balanceOf).1 ∈ ev_T := ev_at 864 (by decide +kernel) (by decide +kernel)
theorem lMo_202 : Cond.methodLink "BatchLinksModel" 202 (mMo_write).1 ∈ ev_T := ev_at 886 (by decide +kernel) (by decide +kernel)
theorem lMo_205 : Cond.methodLink "BatchLinksModel" 205 (mMo_writeNumber).1 ∈ ev_T := ev_at 880 (by decide +kernel) (by decide +kernel)
theorem lMo_209 : Cond.methodLink "BatchLinksModel" 209 (mMo_allIn).1 ∈ ev_T := ev_at 894 (by decide +kernel) (by decide +kernel)
