/-! the law: its cases -/
section LW71
variable {G : xG} {l : Launch} {d bc bs i : Nat} {h : xH} {n : Nat} {P : Option Value → xH → Nat → Prop} {ad tg : Nat → Nat} {ts : List sT} {ys : List Int32} {us : List sU} {cs : List Int32} {as : List sA}
set_option maxRecDepth 20000 in
set_option maxHeartbeats 1000000 in
theorem lw_c7 (hN : xN G < 2 ^ 31) (hi : i + 5 ≤ xN G) (hS : St h n ad tg ts ys us cs as) (nx : ∀ bc' bs' h' n' ad' tg' ts' ys' us' cs' as', bc ≤ bc' → bs ≤ bs' → ad' 0 = ad 0 → ad' 1000 = ad 1000 → St h' n' ad' tg' ts' ys' us' cs' as' → ev_Run G l (d + 7) bc' bs' mLw_law 1168 [some (.ref (xb G)), some (.ref (ad 0)), some (.ref (ad 1000)), some (.int (nI i))] [] h' n' P) : ev_Run G l (d + 7) (bc + 4) (bs + 171) mLw_law 552 [some (.ref (xb G)), some (.ref (ad 0)), some (.ref (ad 1000)), some (.int (nI i))] [] h n P := by
  obtain ⟨hI, ⟨lr, lq, X, N⟩, S, L, ⟨pg, B⟩, iv, ia, la, MH, MT, MY, MU, MG⟩ := id hS
  have h0 := X.2.1
  have M0 : MoK h h ad tg ts.length iv ia la := ⟨X.1, MH, fun _ _ => rfl⟩
  refine ev_aload_n dLw_law_552 rfl rfl ?_
  refine ev_aload_n dLw_law_553 rfl rfl ?_
  refine ev_iload_n dLw_law_554 rfl rfl ?_
  refine ev_iconst (v := nI 1) dLw_law_555 (by decide) ?_
  refine ev_iadd dLw_law_556 ?_
  refine ev_sld dLw_law_557 (nI_add _ _) (by omega) hN ?_
  refine ev_aload_n dLw_law_558 rfl rfl ?_
  refine ev_iload_n dLw_law_559 rfl rfl ?_
  refine ev_iconst (v := nI 2) dLw_law_560 (by decide) ?_
  refine ev_iadd dLw_law_561 ?_
  refine ev_sld dLw_law_562 (nI_add _ _) (by omega) hN ?_
  refine cz_BL_told dLw_law_563 lLw_50 h0 (Nat.le_of_ble_eq_true rfl) (BL_told_ok X ?_)
  refine ev_aload_n dLw_law_566 rfl rfl ?_
  refine ev_aload_n dLw_law_567 rfl rfl ?_
  refine ev_iload_n dLw_law_568 rfl rfl ?_
  refine ev_iconst (v := nI 1) dLw_law_569 (by decide) ?_
  refine ev_iadd dLw_law_570 ?_
  refine ev_sld dLw_law_571 (nI_add _ _) (by omega) hN ?_
  refine ev_aload_n dLw_law_572 rfl rfl ?_
  refine ev_iload_n dLw_law_573 rfl rfl ?_
  refine ev_iconst (v := nI 2) dLw_law_574 (by decide) ?_
  refine ev_iadd dLw_law_575 ?_
  refine ev_sld dLw_law_576 (nI_add _ _) (by omega) hN ?_
  refine cz_Mo_told dLw_law_577 lLw_54 M0.2.1.1 (Nat.le_of_ble_eq_true rfl) (Mo_told_ok M0 MT ?_)
  refine ev_lcmp_eq (tgt := 1168) dLw_law_580 dLw_law_581 (by decide) (fun c580 => ?_) (fun c580 => absurd (rfl) c580)
  exact nx (bc + 4) (bs + 171) h n ad tg ts ys us cs as (by omega) (by omega) rfl rfl hS
set_option maxRecDepth 20000 in
set_option maxHeartbeats 1000000 in
theorem lw_c8 (hN : xN G < 2 ^ 31) (hi : i + 5 ≤ xN G) (hS : St h n ad tg ts ys us cs as) (nx : ∀ bc' bs' h' n' ad' tg' ts' ys' us' cs' as', bc ≤ bc' → bs ≤ bs' → ad' 0 = ad 0 → ad' 1000 = ad 1000 → St h' n' ad' tg' ts' ys' us' cs' as' → ev_Run G l (d + 7) bc' bs' mLw_law 1168 [some (.ref (xb G)), some (.ref (ad 0)), some (.ref (ad 1000)), some (.int (nI i))] [] h' n' P) : ev_Run G l (d + 7) (bc + 4) (bs + 171) mLw_law 586 [some (.ref (xb G)), some (.ref (ad 0)), some (.ref (ad 1000)), some (.int (nI i))] [] h n P := by
  obtain ⟨hI, ⟨lr, lq, X, N⟩, S, L, ⟨pg, B⟩, iv, ia, la, MH, MT, MY, MU, MG⟩ := id hS
  have h0 := X.2.1
  have M0 : MoK h h ad tg ts.length iv ia la := ⟨X.1, MH, fun _ _ => rfl⟩
  refine ev_aload_n dLw_law_586 rfl rfl ?_
  refine ev_aload_n dLw_law_587 rfl rfl ?_
  refine ev_iload_n dLw_law_588 rfl rfl ?_
  refine ev_iconst (v := nI 1) dLw_law_589 (by decide) ?_
  refine ev_iadd dLw_law_590 ?_
  refine ev_sld dLw_law_591 (nI_add _ _) (by omega) hN ?_
  refine ev_aload_n dLw_law_592 rfl rfl ?_
  refine ev_iload_n dLw_law_593 rfl rfl ?_
  refine ev_iconst (v := nI 2) dLw_law_594 (by decide) ?_
  refine ev_iadd dLw_law_595 ?_
  refine ev_sld dLw_law_596 (nI_add _ _) (by omega) hN ?_
  refine ev_aload_n dLw_law_597 rfl rfl ?_
  refine ev_iload_n dLw_law_598 rfl rfl ?_
  refine ev_iconst (v := nI 3) dLw_law_599 (by decide) ?_
  refine ev_iadd dLw_law_600 ?_
  refine ev_sld dLw_law_601 (nI_add _ _) (by omega) hN ?_
  refine cz_BL_layer dLw_law_602 lLw_55 h0 (Nat.le_of_ble_eq_true rfl) (BL_layer_ok X ?_)
  refine ev_aload_n dLw_law_605 rfl rfl ?_
  refine ev_aload_n dLw_law_606 rfl rfl ?_
  refine ev_iload_n dLw_law_607 rfl rfl ?_
  refine ev_iconst (v := nI 1) dLw_law_608 (by decide) ?_
  refine ev_iadd dLw_law_609 ?_
  refine ev_sld dLw_law_610 (nI_add _ _) (by omega) hN ?_
  refine ev_aload_n dLw_law_611 rfl rfl ?_
  refine ev_iload_n dLw_law_612 rfl rfl ?_
  refine ev_iconst (v := nI 2) dLw_law_613 (by decide) ?_
  refine ev_iadd dLw_law_614 ?_
  refine ev_sld dLw_law_615 (nI_add _ _) (by omega) hN ?_
  refine ev_aload_n dLw_law_616 rfl rfl ?_
  refine ev_iload_n dLw_law_617 rfl rfl ?_
  refine ev_iconst (v := nI 3) dLw_law_618 (by decide) ?_
  refine ev_iadd dLw_law_619 ?_
  refine ev_sld dLw_law_620 (nI_add _ _) (by omega) hN ?_
  refine cz_Mo_layer dLw_law_621 lLw_59 M0.2.1.1 (Nat.le_of_ble_eq_true rfl) (Mo_layer_ok M0 MT ?_)
  refine ev_lcmp_eq (tgt := 1168) dLw_law_624 dLw_law_625 (by decide) (fun c624 => ?_) (fun c624 => absurd (rfl) c624)
  exact nx (bc + 4) (bs + 171) h n ad tg ts ys us cs as (by omega) (by omega) rfl rfl hS
set_option maxRecDepth 20000 in
set_option maxHeartbeats 1000000 in
theorem lw_c9 (hN : xN G < 2 ^ 31) (hi : i + 5 ≤ xN G) (hS : St h n ad tg ts ys us cs as) (nx : ∀ bc' bs' h' n' ad' tg' ts' ys' us' cs' as', bc ≤ bc' → bs ≤ bs' → ad' 0 = ad 0 → ad' 1000 = ad 1000 → St h' n' ad' tg' ts' ys' us' cs' as' → ev_Run G l (d + 7) bc' bs' mLw_law 1168 [some (.ref (xb G)), some (.ref (ad 0)), some (.ref (ad 1000)), some (.int (nI i))] [] h' n' P) : ev_Run G l (d + 7) (bc + 4) (bs + 171) mLw_law 630 [some (.ref (xb G)), some (.ref (ad 0)), some (.ref (ad 1000)), some (.int (nI i))] [] h n P := by
  obtain ⟨hI, ⟨lr, lq, X, N⟩, S, L, ⟨pg, B⟩, iv, ia, la, MH, MT, MY, MU, MG⟩ := id hS
  have h0 := X.2.1
  have M0 : MoK h h ad tg ts.length iv ia la := ⟨X.1, MH, fun _ _ => rfl⟩
  refine ev_aload_n dLw_law_630 rfl rfl ?_
  refine ev_aload_n dLw_law_631 rfl rfl ?_
  refine ev_iload_n dLw_law_632 rfl rfl ?_
  refine ev_iconst (v := nI 1) dLw_law_633 (by decide) ?_
  refine ev_iadd dLw_law_634 ?_
  refine ev_sld dLw_law_635 (nI_add _ _) (by omega) hN ?_
  refine ev_aload_n dLw_law_636 rfl rfl ?_
  refine ev_iload_n dLw_law_637 rfl rfl ?_
  refine ev_iconst (v := nI 2) dLw_law_638 (by decide) ?_
  refine ev_iadd dLw_law_639 ?_
  refine ev_sld dLw_law_640 (nI_add _ _) (by omega) hN ?_
  refine ev_aload_n dLw_law_641 rfl rfl ?_
  refine ev_iload_n dLw_law_642 rfl rfl ?_
  refine ev_iconst (v := nI 3) dLw_law_643 (by decide) ?_
  refine ev_iadd dLw_law_644 ?_
  refine ev_sld dLw_law_645 (nI_add _ _) (by omega) hN ?_
  refine cz_BL_share dLw_law_646 lLw_60 h0 (Nat.le_of_ble_eq_true rfl) (BL_share_ok X ?_)
  refine ev_aload_n dLw_law_649 rfl rfl ?_
  refine ev_aload_n dLw_law_650 rfl rfl ?_
  refine ev_iload_n dLw_law_651 rfl rfl ?_
  refine ev_iconst (v := nI 1) dLw_law_652 (by decide) ?_
  refine ev_iadd dLw_law_653 ?_
  refine ev_sld dLw_law_654 (nI_add _ _) (by omega) hN ?_
  refine ev_aload_n dLw_law_655 rfl rfl ?_
  refine ev_iload_n dLw_law_656 rfl rfl ?_
  refine ev_iconst (v := nI 2) dLw_law_657 (by decide) ?_
  refine ev_iadd dLw_law_658 ?_
  refine ev_sld dLw_law_659 (nI_add _ _) (by omega) hN ?_
  refine ev_aload_n dLw_law_660 rfl rfl ?_
  refine ev_iload_n dLw_law_661 rfl rfl ?_
  refine ev_iconst (v := nI 3) dLw_law_662 (by decide) ?_
  refine ev_iadd dLw_law_663 ?_
  refine ev_sld dLw_law_664 (nI_add _ _) (by omega) hN ?_
  refine cz_Mo_share dLw_law_665 lLw_63 M0.2.1.1 (Nat.le_of_ble_eq_true rfl) (Mo_share_ok M0 MT ?_)
  refine ev_lcmp_eq (tgt := 1168) dLw_law_668 dLw_law_669 (by decide) (fun c668 => ?_) (fun c668 => absurd (rfl) c668)
  exact nx (bc + 4) (bs + 171) h n ad tg ts ys us cs as (by omega) (by omega) rfl rfl hS
set_option maxRecDepth 20000 in
set_option maxHeartbeats 1000000 in
theorem lw_c10 (hN : xN G < 2 ^ 31) (hi : i + 5 ≤ xN G) (hS : St h n ad tg ts ys us cs as) (nx : ∀ bc' bs' h' n' ad' tg' ts' ys' us' cs' as', bc ≤ bc' → bs ≤ bs' → ad' 0 = ad 0 → ad' 1000 = ad 1000 → St h' n' ad' tg' ts' ys' us' cs' as' → ev_Run G l (d + 7) bc' bs' mLw_law 1168 [some (.ref (xb G)), some (.ref (ad 0)), some (.ref (ad 1000)), some (.int (nI i))] [] h' n' P) : ev_Run G l (d + 7) (bc + 4) (bs + 171) mLw_law 674 [some (.ref (xb G)), some (.ref (ad 0)), some (.ref (ad 1000)), some (.int (nI i))] [] h n P := by
  obtain ⟨hI, ⟨lr, lq, X, N⟩, S, L, ⟨pg, B⟩, iv, ia, la, MH, MT, MY, MU, MG⟩ := id hS
  have h0 := X.2.1
  have M0 : MoK h h ad tg ts.length iv ia la := ⟨X.1, MH, fun _ _ => rfl⟩
  refine ev_aload_n dLw_law_674 rfl rfl ?_
  refine ev_aload_n dLw_law_675 rfl rfl ?_
  refine ev_iload_n dLw_law_676 rfl rfl ?_
  refine ev_iconst (v := nI 1) dLw_law_677 (by decide) ?_
  refine ev_iadd dLw_law_678 ?_
  refine ev_sld dLw_law_679 (nI_add _ _) (by omega) hN ?_
  refine ev_aload_n dLw_law_680 rfl rfl ?_
  refine ev_iload_n dLw_law_681 rfl rfl ?_
  refine ev_iconst (v := nI 2) dLw_law_682 (by decide) ?_
  refine ev_iadd dLw_law_683 ?_
  refine ev_sld dLw_law_684 (nI_add _ _) (by omega) hN ?_
  refine cz_BL_back dLw_law_685 lLw_64 h0 (Nat.le_of_ble_eq_true rfl) (BL_back_ok X S (fun h1 S1 o1 => ?_))
  have M1 := M_cp X.1 MH (off_cp X.1 o1 [3] rfl (by decide) (Or.inr ⟨by omega, by omega⟩) (by decide))
  refine ev_aload_n dLw_law_688 rfl rfl ?_
  refine ev_aload_n dLw_law_689 rfl rfl ?_
  refine ev_iload_n dLw_law_690 rfl rfl ?_
  refine ev_iconst (v := nI 1) dLw_law_691 (by decide) ?_
  refine ev_iadd dLw_law_692 ?_
  refine ev_sld dLw_law_693 (nI_add _ _) (by omega) hN ?_
  refine ev_aload_n dLw_law_694 rfl rfl ?_
  refine ev_iload_n dLw_law_695 rfl rfl ?_
  refine ev_iconst (v := nI 2) dLw_law_696 (by decide) ?_
  refine ev_iadd dLw_law_697 ?_
  refine ev_sld dLw_law_698 (nI_add _ _) (by omega) hN ?_
  refine cz_Mo_back dLw_law_699 lLw_68 M1.2.1.1 (Nat.le_of_ble_eq_true rfl) (Mo_back_ok M1 MT hI ?_)
  refine ev_icmp_eq (tgt := 1168) dLw_law_702 (by decide) (fun c702 => ?_) (fun c702 => absurd (rfl) c702)
  exact nx (bc + 4) (bs + 171) h1 n ad tg ts ys us cs as (by omega) (by omega) rfl rfl (St_C hI X N S1 L B (o1.mono (by simp)) MH MT MY MU MG)
set_option maxRecDepth 20000 in
set_option maxHeartbeats 1000000 in
theorem lw_c11 (hN : xN G < 2 ^ 31) (hi : i + 5 ≤ xN G) (hS : St h n ad tg ts ys us cs as) (nx : ∀ bc' bs' h' n' ad' tg' ts' ys' us' cs' as', bc ≤ bc' → bs ≤ bs' → ad' 0 = ad 0 → ad' 1000 = ad 1000 → St h' n' ad' tg' ts' ys' us' cs' as' → ev_Run G l (d + 7) bc' bs' mLw_law 1168 [some (.ref (xb G)), some (.ref (ad 0)), some (.ref (ad 1000)), some (.int (nI i))] [] h' n' P) : ev_Run G l (d + 7) (bc + 4) (bs + 171) mLw_law 707 [some (.ref (xb G)), some (.ref (ad 0)), some (.ref (ad 1000)), some (.int (nI i))] [] h n P := by
  obtain ⟨hI, ⟨lr, lq, X, N⟩, S, L, ⟨pg, B⟩, iv, ia, la, MH, MT, MY, MU, MG⟩ := id hS
  have h0 := X.2.1
  have M0 : MoK h h ad tg ts.length iv ia la := ⟨X.1, MH, fun _ _ => rfl⟩
  refine ev_aload_n dLw_law_707 rfl rfl ?_
  refine ev_aload_n dLw_law_708 rfl rfl ?_
  refine ev_iload_n dLw_law_709 rfl rfl ?_
  refine ev_iconst (v := nI 1) dLw_law_710 (by decide) ?_
  refine ev_iadd dLw_law_711 ?_
  refine ev_sld dLw_law_712 (nI_add _ _) (by omega) hN ?_
  refine cz_BL_recall dLw_law_713 lLw_69 h0 (Nat.le_of_ble_eq_true rfl) (BL_recall_ok X S (fun h1 S1 o1 => ?_))
  have M1 := M_cp X.1 MH (off_cp X.1 o1 [5] rfl (by decide) (Or.inr ⟨by omega, by omega⟩) (by decide))
  refine ev_aload_n dLw_law_716 rfl rfl ?_
  refine ev_aload_n dLw_law_717 rfl rfl ?_
  refine ev_iload_n dLw_law_718 rfl rfl ?_
  refine ev_iconst (v := nI 1) dLw_law_719 (by decide) ?_
  refine ev_iadd dLw_law_720 ?_
  refine ev_sld dLw_law_721 (nI_add _ _) (by omega) hN ?_
  refine cz_Mo_recall dLw_law_722 lLw_73 M1.2.1.1 (Nat.le_of_ble_eq_true rfl) (Mo_recall_ok M1 MT ?_)
  refine ev_icmp_eq (tgt := 1168) dLw_law_725 (by decide) (fun c725 => ?_) (fun c725 => absurd (rfl) c725)
  exact nx (bc + 4) (bs + 171) h1 n ad tg ts ys us cs as (by omega) (by omega) rfl rfl (St_C hI X N S1 L B (o1.mono (by simp)) MH MT MY MU MG)
set_option maxRecDepth 20000 in
set_option maxHeartbeats 1000000 in
theorem lw_c12 (hN : xN G < 2 ^ 31) (hi : i + 5 ≤ xN G) (hS : St h n ad tg ts ys us cs as) (nx : ∀ bc' bs' h' n' ad' tg' ts' ys' us' cs' as', bc ≤ bc' → bs ≤ bs' → ad' 0 = ad 0 → ad' 1000 = ad 1000 → St h' n' ad' tg' ts' ys' us' cs' as' → ev_Run G l (d + 7) bc' bs' mLw_law 1168 [some (.ref (xb G)), some (.ref (ad 0)), some (.ref (ad 1000)), some (.int (nI i))] [] h' n' P) : ev_Run G l (d + 7) (bc + 4) (bs + 171) mLw_law 730 [some (.ref (xb G)), some (.ref (ad 0)), some (.ref (ad 1000)), some (.int (nI i))] [] h n P := by
  obtain ⟨hI, ⟨lr, lq, X, N⟩, S, L, ⟨pg, B⟩, iv, ia, la, MH, MT, MY, MU, MG⟩ := id hS
  have h0 := X.2.1
  have M0 : MoK h h ad tg ts.length iv ia la := ⟨X.1, MH, fun _ _ => rfl⟩
  refine ev_aload_n dLw_law_730 rfl rfl ?_
  refine ev_aload_n dLw_law_731 rfl rfl ?_
  refine ev_iload_n dLw_law_732 rfl rfl ?_
  refine ev_iconst (v := nI 1) dLw_law_733 (by decide) ?_
  refine ev_iadd dLw_law_734 ?_
  refine ev_sld dLw_law_735 (nI_add _ _) (by omega) hN ?_
  refine ev_aload_n dLw_law_736 rfl rfl ?_
  refine ev_iload_n dLw_law_737 rfl rfl ?_
  refine ev_iconst (v := nI 2) dLw_law_738 (by decide) ?_
  refine ev_iadd dLw_law_739 ?_
  refine ev_sld dLw_law_740 (nI_add _ _) (by omega) hN ?_
  refine cz_BL_recalled dLw_law_741 lLw_74 h0 (Nat.le_of_ble_eq_true rfl) (BL_recalled_ok X S (fun h1 S1 o1 => ?_))
  have M1 := M_cp X.1 MH (off_cp X.1 o1 [5] rfl (by decide) (Or.inr ⟨by omega, by omega⟩) (by decide))
  refine ev_aload_n dLw_law_744 rfl rfl ?_
  refine ev_aload_n dLw_law_745 rfl rfl ?_
  refine ev_iload_n dLw_law_746 rfl rfl ?_
  refine ev_iconst (v := nI 1) dLw_law_747 (by decide) ?_
  refine ev_iadd dLw_law_748 ?_
  refine ev_sld dLw_law_749 (nI_add _ _) (by omega) hN ?_
  refine ev_aload_n dLw_law_750 rfl rfl ?_
  refine ev_iload_n dLw_law_751 rfl rfl ?_
  refine ev_iconst (v := nI 2) dLw_law_752 (by decide) ?_
  refine ev_iadd dLw_law_753 ?_
  refine ev_sld dLw_law_754 (nI_add _ _) (by omega) hN ?_
  refine cz_Mo_recalled dLw_law_755 lLw_77 M1.2.1.1 (Nat.le_of_ble_eq_true rfl) (Mo_recalled_ok M1 MT ?_)
  refine ev_icmp_eq (tgt := 1168) dLw_law_758 (by decide) (fun c758 => ?_) (fun c758 => absurd (rfl) c758)
  exact nx (bc + 4) (bs + 171) h1 n ad tg ts ys us cs as (by omega) (by omega) rfl rfl (St_C hI X N S1 L B (o1.mono (by simp)) MH MT MY MU MG)
set_option maxRecDepth 20000 in
set_option maxHeartbeats 1000000 in
theorem lw_c13 (hN : xN G < 2 ^ 31) (hi : i + 5 ≤ xN G) (hS : St h n ad tg ts ys us cs as) (nx : ∀ bc' bs' h' n' ad' tg' ts' ys' us' cs' as', bc ≤ bc' → bs ≤ bs' → ad' 0 = ad 0 → ad' 1000 = ad 1000 → St h' n' ad' tg' ts' ys' us' cs' as' → ev_Run G l (d + 7) bc' bs' mLw_law 1168 [some (.ref (xb G)), some (.ref (ad 0)), some (.ref (ad 1000)), some (.int (nI i))] [] h' n' P) : ev_Run G l (d + 7) (bc + 4) (bs + 171) mLw_law 763 [some (.ref (xb G)), some (.ref (ad 0)), some (.ref (ad 1000)), some (.int (nI i))] [] h n P := by
  obtain ⟨hI, ⟨lr, lq, X, N⟩, S, L, ⟨pg, B⟩, iv, ia, la, MH, MT, MY, MU, MG⟩ := id hS
  have h0 := X.2.1
  have M0 : MoK h h ad tg ts.length iv ia la := ⟨X.1, MH, fun _ _ => rfl⟩
  refine ev_aload_n dLw_law_763 rfl rfl ?_
  refine ev_aload_n dLw_law_764 rfl rfl ?_
  refine ev_iload_n dLw_law_765 rfl rfl ?_
  refine ev_iconst (v := nI 1) dLw_law_766 (by decide) ?_
  refine ev_iadd dLw_law_767 ?_
  refine ev_sld dLw_law_768 (nI_add _ _) (by omega) hN ?_
  refine cz_BL_doubled dLw_law_769 lLw_78 h0 (Nat.le_of_ble_eq_true rfl) (BL_doubled_ok X S (fun h1 S1 o1 => ?_))
  have M1 := M_cp X.1 MH (off_cp X.1 o1 [3, 5] rfl (by decide) (Or.inr ⟨by omega, by omega⟩) (by decide))
  refine ev_aload_n dLw_law_772 rfl rfl ?_
  refine ev_aload_n dLw_law_773 rfl rfl ?_
  refine ev_iload_n dLw_law_774 rfl rfl ?_
  refine ev_iconst (v := nI 1) dLw_law_775 (by decide) ?_
  refine ev_iadd dLw_law_776 ?_
  refine ev_sld dLw_law_777 (nI_add _ _) (by omega) hN ?_
  refine cz_Mo_doubled dLw_law_778 lLw_81 M1.2.1.1 (Nat.le_of_ble_eq_true rfl) (Mo_doubled_ok M1 MT ?_)
  refine ev_icmp_eq (tgt := 1168) dLw_law_781 (by decide) (fun c781 => ?_) (fun c781 => absurd (rfl) c781)
  exact nx (bc + 4) (bs + 171) h1 n ad tg ts ys us cs as (by omega) (by omega) rfl rfl (St_C hI X N S1 L B o1 MH MT MY MU MG)
set_option maxRecDepth 20000 in
set_option maxHeartbeats 1000000 in
theorem lw_c14 (hN : xN G < 2 ^ 31) (hi : i + 5 ≤ xN G) (hS : St h n ad tg ts ys us cs as) (nx : ∀ bc' bs' h' n' ad' tg' ts' ys' us' cs' as', bc ≤ bc' → bs ≤ bs' → ad' 0 = ad 0 → ad' 1000 = ad 1000 → St h' n' ad' tg' ts' ys' us' cs' as' → ev_Run G l (d + 7) bc' bs' mLw_law 1168 [some (.ref (xb G)), some (.ref (ad 0)), some (.ref (ad 1000)), some (.int (nI i))] [] h' n' P) : ev_Run G l (d + 7) (bc + 4) (bs + 171) mLw_law 786 [some (.ref (xb G)), some (.ref (ad 0)), some (.ref (ad 1000)), some (.int (nI i))] [] h n P := by
  obtain ⟨hI, ⟨lr, lq, X, N⟩, S, L, ⟨pg, B⟩, iv, ia, la, MH, MT, MY, MU, MG⟩ := id hS
  have h0 := X.2.1
  have M0 : MoK h h ad tg ts.length iv ia la := ⟨X.1, MH, fun _ _ => rfl⟩
  refine ev_aload_n dLw_law_786 rfl rfl ?_
  refine ev_aload_n dLw_law_787 rfl rfl ?_
  refine ev_iload_n dLw_law_788 rfl rfl ?_
  refine ev_iconst (v := nI 1) dLw_law_789 (by decide) ?_
  refine ev_iadd dLw_law_790 ?_
  refine ev_sld dLw_law_791 (nI_add _ _) (by omega) hN ?_
  refine cz_BL_unit dLw_law_792 lLw_82 h0 (Nat.le_of_ble_eq_true rfl) (BL_unit_ok X N (fun h1 B1 o1 => ?_))
  have M1 := M_cp X.1 MH (off_cp X.1 o1 [6, 7] rfl (by decide) (Or.inr ⟨by omega, by omega⟩) (by decide))
  refine ev_aload_n dLw_law_795 rfl rfl ?_
  refine ev_aload_n dLw_law_796 rfl rfl ?_
  refine ev_iload_n dLw_law_797 rfl rfl ?_
  refine ev_iconst (v := nI 1) dLw_law_798 (by decide) ?_
  refine ev_iadd dLw_law_799 ?_
  refine ev_sld dLw_law_800 (nI_add _ _) (by omega) hN ?_
  refine cz_Mo_unit dLw_law_801 lLw_86 M1.2.1.1 (Nat.le_of_ble_eq_true rfl) (Mo_unit_ok M1 MY (fun h2 iv2 ia2 M2 Y2 j1 j2 => ?_))
  refine ev_icmp_eq (tgt := 1168) dLw_law_804 (by decide) (fun c804 => ?_) (fun c804 => absurd (rfl) c804)
  exact nx (bc + 4) (bs + 171) h2 n ad tg ts _ us cs as (by omega) (by omega) rfl rfl (St_D hI X N S L B B1 o1 M2 MT Y2 MU MG j1 j2)
set_option maxRecDepth 20000 in
set_option maxHeartbeats 1000000 in
theorem lw_c15 (hN : xN G < 2 ^ 31) (hi : i + 5 ≤ xN G) (hS : St h n ad tg ts ys us cs as) (nx : ∀ bc' bs' h' n' ad' tg' ts' ys' us' cs' as', bc ≤ bc' → bs ≤ bs' → ad' 0 = ad 0 → ad' 1000 = ad 1000 → St h' n' ad' tg' ts' ys' us' cs' as' → ev_Run G l (d + 7) bc' bs' mLw_law 1168 [some (.ref (xb G)), some (.ref (ad 0)), some (.ref (ad 1000)), some (.int (nI i))] [] h' n' P) : ev_Run G l (d + 7) (bc + 4) (bs + 171) mLw_law 809 [some (.ref (xb G)), some (.ref (ad 0)), some (.ref (ad 1000)), some (.int (nI i))] [] h n P := by
  obtain ⟨hI, ⟨lr, lq, X, N⟩, S, L, ⟨pg, B⟩, iv, ia, la, MH, MT, MY, MU, MG⟩ := id hS
  have h0 := X.2.1
  have M0 : MoK h h ad tg ts.length iv ia la := ⟨X.1, MH, fun _ _ => rfl⟩
  refine ev_aload_n dLw_law_809 rfl rfl ?_
  refine cz_BL_names dLw_law_810 lLw_87 h0 (Nat.le_of_ble_eq_true rfl) (BL_names_ok X N (fun h1 lr1 lq1 X1 N1 o1 => ?_))
  have M1 := M_cp X.1 MH (off_cp X.1 o1 [0, 6, 7, 8, 9, 10, 11, 12, 13, 14, 15, 16, 17, 18] rfl (by decide) (Or.inr ⟨by omega, by omega⟩) (by decide))
  refine ev_aload_n dLw_law_813 rfl rfl ?_
  refine cz_Mo_names dLw_law_814 lLw_90 M1.2.1.1 (Nat.le_of_ble_eq_true rfl) (Mo_names_ok M1 MY MU (fun h2 iv2 ia2 M2 Y2 U2 r2 => ?_))
  refine ev_icmp_eq (tgt := 1168) dLw_law_817 (by decide) (fun c817 => ?_) (fun c817 => absurd (rfl) c817)
  exact nx (bc + 4) (bs + 171) h2 n ad tg ts _ _ cs as (by omega) (by omega) rfl rfl (St_E hI X1 N1 S L B o1 M2 MT Y2 U2 MG r2)
end LW71
