/-! the reference: names -/
def MoU (iv : Nat → Int32) (ia : Nat → Nat → Int32) (us : List sU) : Prop := iv 3 = nI us.length ∧ us.length ≤ 40 ∧ (∀ k u, us[k]? = some u → ia 14 k = u.1 ∧ ia 15 k = u.2.1 ∧ ia 16 k = u.2.2.1 ∧ ia 17 k = u.2.2.2)
def MoB (iv : Nat → Int32) (ia : Nat → Nat → Int32) (us : List sU) : Prop := iv 4 = nI us.length ∧ us.length ≤ 40 ∧ (∀ k u, us[k]? = some u → ia 18 k = u.1 ∧ ia 19 k = u.2.1 ∧ ia 20 k = u.2.2.1 ∧ ia 21 k = u.2.2.2)
def mo_nr (iv iv' : Nat → Int32) (ia ia' : Nat → Nat → Int32) : Prop := (∀ j, j < 14 ∨ 22 ≤ j → ia' j = ia j) ∧ (∀ j, j < 2 ∨ 7 ≤ j → iv' j = iv j)
section MOS
variable {G : xG} {l : Launch} {d bc bs : Nat} {h h0 : xH} {n : Nat} {P : Option Value → xH → Nat → Prop} {ad tg : Nat → Nat} {T : Nat} {iv : Nat → Int32} {ia : Nat → Nat → Int32} {la : Nat → Nat → Int64} {ys : List Int32} {us : List sU}
set_option maxRecDepth 20000 in
set_option maxHeartbeats 2000000 in
theorem Mo_names_copy {rs : List sU} {x : Option Value} {x2 x3 x4 : Option Value} (hM : MoK h0 h ad tg T iv ia la) (hB : MoB iv ia rs) (hk : ∀ h' iv' ia', MoK h0 h' ad tg T iv' ia' la → MoU iv' ia' rs → (∀ j, j ≠ 3 → iv' j = iv j) → (∀ j, j < 14 ∨ 18 ≤ j → ia' j = ia j) → P (some (.int (nI rs.length))) h' n) : ev_Run G l d bc bs mMo_names 199 [some (.ref (ad 1000)), x, x2, x3, x4] [] h n P := by
  obtain ⟨b1, b2, b3⟩ := hB
  have loop : ∀ e k h' iv' ia', k + e = rs.length → MoK h0 h' ad tg T iv' ia' la → iv' 3 = nI rs.length → (∀ j, j ≠ 3 → iv' j = iv j) → (∀ j, j < 14 ∨ 18 ≤ j → ia' j = ia j) → (∀ k' u, k' < k → rs[k']? = some u → ia' 14 k' = u.1 ∧ ia' 15 k' = u.2.1 ∧ ia' 16 k' = u.2.2.1 ∧ ia' 17 k' = u.2.2.2) → ev_Run G l d bc bs mMo_names 209 [some (.ref (ad 1000)), some (.int (nI k)), x2, x3, x4] [] h' n P := by
    intro e
    induction e with
    | zero =>
      intro k h' iv' ia' hke hM' h3 hj hja hd
      have h4 : iv' 4 = nI rs.length := (hj 4 (by omega)).trans b1
      refine ev_iload_n dMo_names_209 rfl rfl ?_
      refine ev_aload_n dMo_names_210 rfl rfl ?_
      refine ev_get dMo_names_211 fMo_164 hM'.2.1.1 rfl ?_
      refine ev_icmp_ge (tgt := 271) dMo_names_214 (by decide) (fun c214 => ?_) (fun c214 => absurd ((by rw [h4]; exact nI_le (by omega) (by omega))) c214)
      refine ev_aload_n dMo_names_271 rfl rfl ?_
      refine ev_get dMo_names_272 fMo_175 hM'.2.1.1 rfl ?_
      refine ev_iret dMo_names_275 rfl rfl ?_
      rw [h3]
      exact hk _ _ _ hM' ⟨h3, b2, fun k' u hu => hd k' u (by have := (List.getElem?_eq_some_iff.mp hu).1; omega) hu⟩ hj hja
    | succ e ih =>
      intro k h' iv' ia' hke hM' h3 hj hja hd
      have h4 : iv' 4 = nI rs.length := (hj 4 (by omega)).trans b1
      obtain ⟨u, hu⟩ : ∃ u, rs[k]? = some u := ⟨_, List.getElem?_eq_getElem (by omega)⟩
      obtain ⟨x1, y1, z1, w1⟩ := b3 k u hu
      rw [← hja 18 (by omega)] at x1
      rw [← hja 19 (by omega)] at y1
      rw [← hja 20 (by omega)] at z1
      rw [← hja 21 (by omega)] at w1
      refine ev_iload_n dMo_names_209 rfl rfl ?_
      refine ev_aload_n dMo_names_210 rfl rfl ?_
      refine ev_get dMo_names_211 fMo_164 hM'.2.1.1 rfl ?_
      refine ev_icmp_ge (tgt := 271) dMo_names_214 (by decide) (fun c214 => False.elim (absurd c214 (by rw [h4]; exact nI_ge (by omega) (by omega)))) (fun c214 => ?_)
      refine ev_aload_n dMo_names_217 rfl rfl ?_
      refine ev_get dMo_names_218 fMo_51 hM'.2.1.1 rfl ?_
      refine ev_iload_n dMo_names_221 rfl rfl ?_
      refine ev_aload_n dMo_names_222 rfl rfl ?_
      refine ev_get dMo_names_223 fMo_63 hM'.2.1.1 rfl ?_
      refine ev_iload_n dMo_names_226 rfl rfl ?_
      refine ev_iald dMo_names_227 hM'.2.1.g18 rfl rfl (by omega) (by decide) ?_
      refine ev_top (x1) ?_
      refine ev_iast dMo_names_228 hM'.2.1.g14 rfl rfl (by omega) (by decide) ?_
      refine mo_ist (j := 14) (t := 0) (N := 40) hM' (by decide) (fun h228 m228 => ?_)
      refine ev_aload_n dMo_names_229 rfl rfl ?_
      refine ev_get dMo_names_230 fMo_54 m228.2.1.1 rfl ?_
      refine ev_iload_n dMo_names_233 rfl rfl ?_
      refine ev_aload_n dMo_names_234 rfl rfl ?_
      refine ev_get dMo_names_235 fMo_66 m228.2.1.1 rfl ?_
      refine ev_iload_n dMo_names_238 rfl rfl ?_
      refine ev_iald dMo_names_239 m228.2.1.g19 rfl rfl (by omega) (by decide) ?_
      refine ev_top (y1) ?_
      refine ev_iast dMo_names_240 m228.2.1.g15 rfl rfl (by omega) (by decide) ?_
      refine mo_ist (j := 15) (t := 0) (N := 40) m228 (by decide) (fun h240 m240 => ?_)
      refine ev_aload_n dMo_names_241 rfl rfl ?_
      refine ev_get dMo_names_242 fMo_57 m240.2.1.1 rfl ?_
      refine ev_iload_n dMo_names_245 rfl rfl ?_
      refine ev_aload_n dMo_names_246 rfl rfl ?_
      refine ev_get dMo_names_247 fMo_69 m240.2.1.1 rfl ?_
      refine ev_iload_n dMo_names_250 rfl rfl ?_
      refine ev_iald dMo_names_251 m240.2.1.g20 rfl rfl (by omega) (by decide) ?_
      refine ev_top (z1) ?_
      refine ev_iast dMo_names_252 m240.2.1.g16 rfl rfl (by omega) (by decide) ?_
      refine mo_ist (j := 16) (t := 0) (N := 40) m240 (by decide) (fun h252 m252 => ?_)
      refine ev_aload_n dMo_names_253 rfl rfl ?_
      refine ev_get dMo_names_254 fMo_60 m252.2.1.1 rfl ?_
      refine ev_iload_n dMo_names_257 rfl rfl ?_
      refine ev_aload_n dMo_names_258 rfl rfl ?_
      refine ev_get dMo_names_259 fMo_72 m252.2.1.1 rfl ?_
      refine ev_iload_n dMo_names_262 rfl rfl ?_
      refine ev_iald dMo_names_263 m252.2.1.g21 rfl rfl (by omega) (by decide) ?_
      refine ev_top (w1) ?_
      refine ev_iast dMo_names_264 m252.2.1.g17 rfl rfl (by omega) (by decide) ?_
      refine mo_ist (j := 17) (t := 0) (N := 40) m252 (by decide) (fun h264 m264 => ?_)
      refine ev_iinc dMo_names_265 rfl (ev_inc1 _) (by decide) ?_
      refine ev_goto (tgt := 209) dMo_names_268 (by decide) ?_
      refine ih (k + 1) _ _ _ (by omega) m264 h3 hj (fun j hj' => ?_) (fun k' u' hk' hu' => ?_)
      · rw [upv_n (by omega), upv_n (by omega), upv_n (by omega), upv_n (by omega)]; exact hja j hj'
      · show upd (ia' 14) k u.1 k' = _ ∧ upd (ia' 15) k u.2.1 k' = _ ∧ upd (ia' 16) k u.2.2.1 k' = _ ∧ upd (ia' 17) k u.2.2.2 k' = _; rcases Nat.lt_or_ge k' k with q | q; (rw [pk_un (by omega), pk_un (by omega), pk_un (by omega), pk_un (by omega)]; exact hd k' u' q hu'); (have : k' = k := (by omega); subst this; rw [hu] at hu'; cases hu'; exact ⟨pk_us, pk_us, pk_us, pk_us⟩)
  refine ev_aload_n dMo_names_199 rfl rfl ?_
  refine ev_aload_n dMo_names_200 rfl rfl ?_
  refine ev_get dMo_names_201 fMo_164 hM.2.1.1 rfl ?_
  refine ev_put dMo_names_204 fMo_175 tMo_16 hM.2.1.1 rfl rfl (Nat.le_of_ble_eq_true rfl) ?_
  refine mo_put hM Mo_c3 (fun h204 m204 => ?_)
  refine ev_iconst (v := nI 0) dMo_names_207 (by decide) ?_
  refine ev_istore_n dMo_names_208 rfl (by decide) ?_
  exact loop rs.length 0 _ _ _ (by omega) m204 (upv_s.trans b1) (fun j hj => upv_n hj) (fun _ _ => rfl) (fun k' u hk' => absurd hk' (by omega))
end MOS
