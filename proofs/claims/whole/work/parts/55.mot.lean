section MOT5
variable {G : xG} {l : Launch} {d bc bs : Nat} {h h0 : xH} {n : Nat} {P : Option Value → xH → Nat → Prop} {ad tg : Nat → Nat} {T : Nat} {iv : Nat → Int32} {ia : Nat → Nat → Int32} {la : Nat → Nat → Int64} {ys : List Int32} {us : List sU}
set_option maxRecDepth 20000 in
set_option maxHeartbeats 2000000 in
theorem Mo_names_end {v : Int32} {x x2 x3 x4 : Option Value} {rs : List sU} (hM : MoK h0 h ad tg T iv ia la) (hU : MoU iv ia us) (hB : MoB iv ia rs) (h6 : iv 6 = v) (hv : match nms ys with | .inl e => v = nI e ∧ e ≤ 400 | .inr u => v = -1 ∧ rs = u) (hk : ∀ h' iv' ia', MoK h0 h' ad tg T iv' ia' la → MoY iv' ia' [] → MoU iv' ia' (names_s ys us).2 → mo_nr iv iv' ia ia' → P (some (.int (names_s ys us).1)) h' n) : ev_Run G l d bc bs mMo_names 179 [some (.ref (ad 1000)), x, x2, x3, x4] [] h n P := by
  cases hn : nms ys with
  | inl e =>
    rw [hn] at hv
    obtain ⟨rfl, he⟩ := hv
    rw [names_s, hn] at hk
    refine ev_aload_n dMo_names_179 rfl rfl ?_
    refine ev_iconst (v := nI 0) dMo_names_180 (by decide) ?_
    refine ev_put dMo_names_181 fMo_148 tMo_14 hM.2.1.1 rfl rfl (Nat.le_of_ble_eq_true rfl) ?_
    refine mo_put hM Mo_c2 (fun h181 m181 => ?_)
    refine ev_aload_n dMo_names_184 rfl rfl ?_
    refine ev_get dMo_names_185 fMo_154 m181.2.1.1 rfl ?_
    refine ev_iconst (v := -1) dMo_names_188 (by decide) ?_
    refine ev_icmp_eq (tgt := 199) dMo_names_189 (by decide) (fun c189 => ?_) (fun c189 => ?_)
    · exact absurd (h6.symm.trans c189) (nI_ne1 (by omega))
      
    · skip
      refine ev_iconst (v := -1) dMo_names_192 (by decide) ?_
      refine ev_aload_n dMo_names_193 rfl rfl ?_
      refine ev_get dMo_names_194 fMo_154 m181.2.1.1 rfl ?_
      refine ev_isub dMo_names_197 ?_
      refine ev_iret dMo_names_198 rfl rfl ?_
      rw [show upv iv 2 (nI 0) 6 = nI e from h6]
      exact hk _ _ _ m181 ⟨upv_s, by simp, fun k v hv => by simp at hv⟩ ⟨hU.1, hU.2⟩ ⟨fun _ _ => rfl, fun j hj => upv_n (by omega)⟩
  | inr u =>
    rw [hn] at hv
    obtain ⟨rfl, rfl⟩ := hv
    rw [names_s, hn] at hk
    refine ev_aload_n dMo_names_179 rfl rfl ?_
    refine ev_iconst (v := nI 0) dMo_names_180 (by decide) ?_
    refine ev_put dMo_names_181 fMo_148 tMo_14 hM.2.1.1 rfl rfl (Nat.le_of_ble_eq_true rfl) ?_
    refine mo_put hM Mo_c2 (fun h181 m181 => ?_)
    refine ev_aload_n dMo_names_184 rfl rfl ?_
    refine ev_get dMo_names_185 fMo_154 m181.2.1.1 rfl ?_
    refine ev_iconst (v := -1) dMo_names_188 (by decide) ?_
    refine ev_icmp_eq (tgt := 199) dMo_names_189 (by decide) (fun c189 => ?_) (fun c189 => ?_)
    · skip
      exact Mo_names_copy m181 ⟨hB.1, hB.2⟩ (fun h' iv' ia' m' u' j1 j2 => hk _ _ _ m' ⟨(j1 2 (by omega)).trans upv_s, by simp, fun k v hv => by simp at hv⟩ u' ⟨fun j hj => j2 j (by omega), fun j hj => (j1 j (by omega)).trans (upv_n (by omega))⟩)
    · exact absurd h6 c189
      
end MOT5
