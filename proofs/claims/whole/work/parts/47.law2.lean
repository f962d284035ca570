set_option maxHeartbeats 4000000 in
set_option maxRecDepth 100000 in
/-- differ -/
theorem lw_c13 {F : gF} {b L i : Nat} {xs : Nat → Int32} {ad : Nat → Nat} {K : Nat × Nat} {X : gX} {g : Nat → Nat} {n len : Nat} {h : Nat → Nat → Nat} {pad : Nat → Nat} {sv : Nat → Bool} {sg : Nat → Nat → Nat} (hC : Cx F RL cL_law 4 room_1) (hs : Sc F b L xs) (hab : (S0 ad).2.2 5000 = b) (hL : L ≤ 2560) (hi : i + 5 ≤ L) (hf : K.1 ≤ room_1.cells ∧ K.2 ≤ room_1.slots) (LL : LW X g n h pad len sv sg) (hn : ∀ X', LX X' → G F (S0 ad) K X' 913 [.ref 5000, .ref 0, .ref 201, .int (nI i)] []) : G F (S0 ad) K X 617 [.ref 5000, .ref 0, .ref 201, .int (nI i)] [] := by
  refine g_aload_1 hC dL_law_617 (pc' := 618) rfl ?_
  refine g_aload_0 hC dL_law_618 (pc' := 619) rfl ?_
  refine g_iload_3 hC dL_law_619 (pc' := 620) rfl ?_
  refine g_iconst hC dL_law_620 (pc' := 621) kc_iconst_1 rfl ?_
  refine g_iaddN hC dL_law_621 (pc' := 622) rfl ?_
  refine g_sld hC hs hab hL (by omega) dL_law_622 (pc' := 623) rfl ?_
  refine g_aload_0 hC dL_law_623 (pc' := 624) rfl ?_
  refine g_iload_3 hC dL_law_624 (pc' := 625) rfl ?_
  refine g_iconst hC dL_law_625 (pc' := 626) kc_iconst_2 rfl ?_
  refine g_iaddN hC dL_law_626 (pc' := 627) rfl ?_
  refine g_sld hC hs hab hL (by omega) dL_law_627 (pc' := 628) rfl ?_
  refine g_callV2R hC (k_differ LL.2.1.1 LL.2.2.1) ml_L_69 (sh_cs ad) rfl ⟨(Nat.le_of_ble_eq_true rfl), (Nat.le_of_ble_eq_true rfl)⟩ (Nat.le_of_ble_eq_true rfl) dL_law_628 (pc' := 631) rfl hf ?_
  refine g_aload_2 hC dL_law_631 (pc' := 632) rfl ?_
  refine g_aload_0 hC dL_law_632 (pc' := 633) rfl ?_
  refine g_iload_3 hC dL_law_633 (pc' := 634) rfl ?_
  refine g_iconst hC dL_law_634 (pc' := 635) kc_iconst_1 rfl ?_
  refine g_iaddN hC dL_law_635 (pc' := 636) rfl ?_
  refine g_sld hC hs hab hL (by omega) dL_law_636 (pc' := 637) rfl ?_
  refine g_aload_0 hC dL_law_637 (pc' := 638) rfl ?_
  refine g_iload_3 hC dL_law_638 (pc' := 639) rfl ?_
  refine g_iconst hC dL_law_639 (pc' := 640) kc_iconst_2 rfl ?_
  refine g_iaddN hC dL_law_640 (pc' := 641) rfl ?_
  refine g_sld hC hs hab hL (by omega) dL_law_641 (pc' := 642) rfl ?_
  refine g_callV2R hC (c_differ LL.1.1.1 LL.2.2.1) ml_L_72 (sh_M ad) rfl ⟨(Nat.le_of_ble_eq_true rfl), (Nat.le_of_ble_eq_true rfl)⟩ (Nat.le_of_ble_eq_true rfl) dL_law_642 (pc' := 645) rfl hf ?_
  refine g_icmp_eq hC dL_law_645 (pc' := 648) (tgt := 913) (by decide) rfl (fun h645 => ?_) (fun h645 => by exact absurd rfl h645)
  exact hn _ ⟨g, n, h, pad, len, sv, sg, LL⟩

set_option maxHeartbeats 4000000 in
set_option maxRecDepth 100000 in
/-- enoughFor -/
theorem lw_c14 {F : gF} {b L i : Nat} {xs : Nat → Int32} {ad : Nat → Nat} {K : Nat × Nat} {X : gX} {g : Nat → Nat} {n len : Nat} {h : Nat → Nat → Nat} {pad : Nat → Nat} {sv : Nat → Bool} {sg : Nat → Nat → Nat} (hC : Cx F RL cL_law 4 room_1) (hs : Sc F b L xs) (hab : (S0 ad).2.2 5000 = b) (hL : L ≤ 2560) (hi : i + 5 ≤ L) (hf : K.1 ≤ room_1.cells ∧ K.2 ≤ room_1.slots) (LL : LW X g n h pad len sv sg) (hn : ∀ X', LX X' → G F (S0 ad) K X' 913 [.ref 5000, .ref 0, .ref 201, .int (nI i)] []) : G F (S0 ad) K X 650 [.ref 5000, .ref 0, .ref 201, .int (nI i)] [] := by
  refine g_aload_1 hC dL_law_650 (pc' := 651) rfl ?_
  refine g_aload_0 hC dL_law_651 (pc' := 652) rfl ?_
  refine g_iload_3 hC dL_law_652 (pc' := 653) rfl ?_
  refine g_iconst hC dL_law_653 (pc' := 654) kc_iconst_1 rfl ?_
  refine g_iaddN hC dL_law_654 (pc' := 655) rfl ?_
  refine g_sld hC hs hab hL (by omega) dL_law_655 (pc' := 656) rfl ?_
  refine g_callV1I hC (k_enoughFor LL.2.1.1 LL.2.2.1) ml_L_73 (sh_cs ad) rfl ⟨(Nat.le_of_ble_eq_true rfl), (Nat.le_of_ble_eq_true rfl)⟩ (Nat.le_of_ble_eq_true rfl) dL_law_656 (pc' := 659) rfl hf (fun v656 X656 q656 => ?_)
  obtain ⟨rfl, f1⟩ := q656
  have mm := LL.m (X1 := X656) (fun j hj => f1 j (by omega))
  refine g_aload_2 hC dL_law_659 (pc' := 660) rfl ?_
  refine g_aload_0 hC dL_law_660 (pc' := 661) rfl ?_
  refine g_iload_3 hC dL_law_661 (pc' := 662) rfl ?_
  refine g_iconst hC dL_law_662 (pc' := 663) kc_iconst_1 rfl ?_
  refine g_iaddN hC dL_law_663 (pc' := 664) rfl ?_
  refine g_sld hC hs hab hL (by omega) dL_law_664 (pc' := 665) rfl ?_
  refine g_callV1I hC (c_enoughFor mm.1.1 LL.2.2.1) ml_L_76 (sh_M ad) rfl ⟨(Nat.le_of_ble_eq_true rfl), (Nat.le_of_ble_eq_true rfl)⟩ (Nat.le_of_ble_eq_true rfl) dL_law_665 (pc' := 668) rfl hf (fun v665 X665 q665 => ?_)
  obtain ⟨rfl, r2, s2⟩ := q665
  refine g_icmp_eq hC dL_law_668 (pc' := 671) (tgt := 913) (by decide) rfl (fun h668 => ?_) (fun h668 => by exact absurd rfl h668)
  exact hn _ (LL.a f1 r2 s2)

set_option maxHeartbeats 4000000 in
set_option maxRecDepth 100000 in
/-- strikeFor -/
theorem lw_c15 {F : gF} {b L i : Nat} {xs : Nat → Int32} {ad : Nat → Nat} {K : Nat × Nat} {X : gX} {g : Nat → Nat} {n len : Nat} {h : Nat → Nat → Nat} {pad : Nat → Nat} {sv : Nat → Bool} {sg : Nat → Nat → Nat} (hC : Cx F RL cL_law 4 room_1) (hs : Sc F b L xs) (hab : (S0 ad).2.2 5000 = b) (hL : L ≤ 2560) (hi : i + 5 ≤ L) (hf : K.1 ≤ room_1.cells ∧ K.2 ≤ room_1.slots) (LL : LW X g n h pad len sv sg) (hn : ∀ X', LX X' → G F (S0 ad) K X' 913 [.ref 5000, .ref 0, .ref 201, .int (nI i)] []) : G F (S0 ad) K X 673 [.ref 5000, .ref 0, .ref 201, .int (nI i)] [] := by
  refine g_aload_1 hC dL_law_673 (pc' := 674) rfl ?_
  refine g_aload_0 hC dL_law_674 (pc' := 675) rfl ?_
  refine g_iload_3 hC dL_law_675 (pc' := 676) rfl ?_
  refine g_iconst hC dL_law_676 (pc' := 677) kc_iconst_1 rfl ?_
  refine g_iaddN hC dL_law_677 (pc' := 678) rfl ?_
  refine g_sld hC hs hab hL (by omega) dL_law_678 (pc' := 679) rfl ?_
  refine g_callV1I hC (k_strikeFor LL.2.1.1 LL.2.2.1) ml_L_77 (sh_cs ad) rfl ⟨(Nat.le_of_ble_eq_true rfl), (Nat.le_of_ble_eq_true rfl)⟩ (Nat.le_of_ble_eq_true rfl) dL_law_679 (pc' := 682) rfl hf (fun v679 X679 q679 => ?_)
  obtain ⟨rfl, f1⟩ := q679
  have mm := LL.m (X1 := X679) (fun j hj => f1 j (by omega))
  refine g_aload_2 hC dL_law_682 (pc' := 683) rfl ?_
  refine g_aload_0 hC dL_law_683 (pc' := 684) rfl ?_
  refine g_iload_3 hC dL_law_684 (pc' := 685) rfl ?_
  refine g_iconst hC dL_law_685 (pc' := 686) kc_iconst_1 rfl ?_
  refine g_iaddN hC dL_law_686 (pc' := 687) rfl ?_
  refine g_sld hC hs hab hL (by omega) dL_law_687 (pc' := 688) rfl ?_
  refine g_callV1I hC (c_strikeFor mm.1 LL.2.2.1) ml_L_80 (sh_M ad) rfl ⟨(Nat.le_of_ble_eq_true rfl), (Nat.le_of_ble_eq_true rfl)⟩ (Nat.le_of_ble_eq_true rfl) dL_law_688 (pc' := 691) rfl hf (fun v688 X688 q688 => ?_)
  obtain ⟨rfl, r2, s2⟩ := q688
  refine g_icmp_eq hC dL_law_691 (pc' := 694) (tgt := 913) (by decide) rfl (fun h691 => ?_) (fun h691 => by exact absurd rfl h691)
  exact hn _ (LL.a f1 r2 s2)

set_option maxHeartbeats 4000000 in
set_option maxRecDepth 100000 in
/-- lasts -/
theorem lw_c16 {F : gF} {b L i : Nat} {xs : Nat → Int32} {ad : Nat → Nat} {K : Nat × Nat} {X : gX} {g : Nat → Nat} {n len : Nat} {h : Nat → Nat → Nat} {pad : Nat → Nat} {sv : Nat → Bool} {sg : Nat → Nat → Nat} (hC : Cx F RL cL_law 4 room_1) (hs : Sc F b L xs) (hab : (S0 ad).2.2 5000 = b) (hL : L ≤ 2560) (hi : i + 5 ≤ L) (hf : K.1 ≤ room_1.cells ∧ K.2 ≤ room_1.slots) (LL : LW X g n h pad len sv sg) (hn : ∀ X', LX X' → G F (S0 ad) K X' 913 [.ref 5000, .ref 0, .ref 201, .int (nI i)] []) : G F (S0 ad) K X 696 [.ref 5000, .ref 0, .ref 201, .int (nI i)] [] := by
  refine g_aload_1 hC dL_law_696 (pc' := 697) rfl ?_
  refine g_aload_0 hC dL_law_697 (pc' := 698) rfl ?_
  refine g_iload_3 hC dL_law_698 (pc' := 699) rfl ?_
  refine g_iconst hC dL_law_699 (pc' := 700) kc_iconst_1 rfl ?_
  refine g_iaddN hC dL_law_700 (pc' := 701) rfl ?_
  refine g_sld hC hs hab hL (by omega) dL_law_701 (pc' := 702) rfl ?_
  refine g_callV1I hC (k_lasts LL.2.1.1 LL.2.2.1) ml_L_81 (sh_cs ad) rfl ⟨(Nat.le_of_ble_eq_true rfl), (Nat.le_of_ble_eq_true rfl)⟩ (Nat.le_of_ble_eq_true rfl) dL_law_702 (pc' := 705) rfl hf (fun v702 X702 q702 => ?_)
  obtain ⟨rfl, f1⟩ := q702
  have mm := LL.m (X1 := X702) (fun j hj => f1 j (by omega))
  refine g_aload_2 hC dL_law_705 (pc' := 706) rfl ?_
  refine g_aload_0 hC dL_law_706 (pc' := 707) rfl ?_
  refine g_iload_3 hC dL_law_707 (pc' := 708) rfl ?_
  refine g_iconst hC dL_law_708 (pc' := 709) kc_iconst_1 rfl ?_
  refine g_iaddN hC dL_law_709 (pc' := 710) rfl ?_
  refine g_sld hC hs hab hL (by omega) dL_law_710 (pc' := 711) rfl ?_
  refine g_callV1R hC (c_lasts mm.1.1 LL.2.2.1) ml_L_84 (sh_M ad) rfl ⟨(Nat.le_of_ble_eq_true rfl), (Nat.le_of_ble_eq_true rfl)⟩ (Nat.le_of_ble_eq_true rfl) dL_law_711 (pc' := 714) rfl hf ?_
  refine g_icmp_eq hC dL_law_714 (pc' := 717) (tgt := 913) (by decide) rfl (fun h714 => ?_) (fun h714 => by exact absurd rfl h714)
  exact hn _ (LL.a f1 mm.1.1 fS.rf)

set_option maxHeartbeats 4000000 in
set_option maxRecDepth 100000 in
/-- ifWritten -/
theorem lw_c17 {F : gF} {b L i : Nat} {xs : Nat → Int32} {ad : Nat → Nat} {K : Nat × Nat} {X : gX} {g : Nat → Nat} {n len : Nat} {h : Nat → Nat → Nat} {pad : Nat → Nat} {sv : Nat → Bool} {sg : Nat → Nat → Nat} (hC : Cx F RL cL_law 4 room_1) (hs : Sc F b L xs) (hab : (S0 ad).2.2 5000 = b) (hL : L ≤ 2560) (hi : i + 5 ≤ L) (hf : K.1 ≤ room_1.cells ∧ K.2 ≤ room_1.slots) (LL : LW X g n h pad len sv sg) (hn : ∀ X', LX X' → G F (S0 ad) K X' 913 [.ref 5000, .ref 0, .ref 201, .int (nI i)] []) : G F (S0 ad) K X 719 [.ref 5000, .ref 0, .ref 201, .int (nI i)] [] := by
  refine g_aload_1 hC dL_law_719 (pc' := 720) rfl ?_
  refine g_aload_0 hC dL_law_720 (pc' := 721) rfl ?_
  refine g_iload_3 hC dL_law_721 (pc' := 722) rfl ?_
  refine g_iconst hC dL_law_722 (pc' := 723) kc_iconst_1 rfl ?_
  refine g_iaddN hC dL_law_723 (pc' := 724) rfl ?_
  refine g_sld hC hs hab hL (by omega) dL_law_724 (pc' := 725) rfl ?_
  refine g_aload_0 hC dL_law_725 (pc' := 726) rfl ?_
  refine g_iload_3 hC dL_law_726 (pc' := 727) rfl ?_
  refine g_iconst hC dL_law_727 (pc' := 728) kc_iconst_2 rfl ?_
  refine g_iaddN hC dL_law_728 (pc' := 729) rfl ?_
  refine g_sld hC hs hab hL (by omega) dL_law_729 (pc' := 730) rfl ?_
  refine g_aload_0 hC dL_law_730 (pc' := 731) rfl ?_
  refine g_iload_3 hC dL_law_731 (pc' := 732) rfl ?_
  refine g_iconst hC dL_law_732 (pc' := 733) kc_iconst_3 rfl ?_
  refine g_iaddN hC dL_law_733 (pc' := 734) rfl ?_
  refine g_sld hC hs hab hL (by omega) dL_law_734 (pc' := 735) rfl ?_
  refine g_callV3I hC (k_ifWritten LL.2.1.1 LL.2.2.1) ml_L_85 (sh_cs ad) rfl ⟨(Nat.le_of_ble_eq_true rfl), (Nat.le_of_ble_eq_true rfl)⟩ (Nat.le_of_ble_eq_true rfl) dL_law_735 (pc' := 738) rfl hf (fun v735 X735 q735 => ?_)
  obtain ⟨rfl, f1⟩ := q735
  have mm := LL.m (X1 := X735) (fun j hj => f1 j (by omega))
  refine g_aload_2 hC dL_law_738 (pc' := 739) rfl ?_
  refine g_aload_0 hC dL_law_739 (pc' := 740) rfl ?_
  refine g_iload_3 hC dL_law_740 (pc' := 741) rfl ?_
  refine g_iconst hC dL_law_741 (pc' := 742) kc_iconst_1 rfl ?_
  refine g_iaddN hC dL_law_742 (pc' := 743) rfl ?_
  refine g_sld hC hs hab hL (by omega) dL_law_743 (pc' := 744) rfl ?_
  refine g_aload_0 hC dL_law_744 (pc' := 745) rfl ?_
  refine g_iload_3 hC dL_law_745 (pc' := 746) rfl ?_
  refine g_iconst hC dL_law_746 (pc' := 747) kc_iconst_2 rfl ?_
  refine g_iaddN hC dL_law_747 (pc' := 748) rfl ?_
  refine g_sld hC hs hab hL (by omega) dL_law_748 (pc' := 749) rfl ?_
  refine g_aload_0 hC dL_law_749 (pc' := 750) rfl ?_
  refine g_iload_3 hC dL_law_750 (pc' := 751) rfl ?_
  refine g_iconst hC dL_law_751 (pc' := 752) kc_iconst_3 rfl ?_
  refine g_iaddN hC dL_law_752 (pc' := 753) rfl ?_
  refine g_sld hC hs hab hL (by omega) dL_law_753 (pc' := 754) rfl ?_
  refine g_callV3I hC (c_ifWritten mm.1 LL.2.2.1) ml_L_88 (sh_M ad) rfl ⟨(Nat.le_of_ble_eq_true rfl), (Nat.le_of_ble_eq_true rfl)⟩ (Nat.le_of_ble_eq_true rfl) dL_law_754 (pc' := 757) rfl hf (fun v754 X754 q754 => ?_)
  obtain ⟨rfl, r2, s2⟩ := q754
  refine g_icmp_eq hC dL_law_757 (pc' := 760) (tgt := 913) (by decide) rfl (fun h757 => ?_) (fun h757 => by exact absurd rfl h757)
  exact hn _ (LL.a f1 r2 s2)

set_option maxHeartbeats 4000000 in
set_option maxRecDepth 100000 in
/-- put -/
theorem lw_c18 {F : gF} {b L i : Nat} {xs : Nat → Int32} {ad : Nat → Nat} {K : Nat × Nat} {X : gX} {g : Nat → Nat} {n len : Nat} {h : Nat → Nat → Nat} {pad : Nat → Nat} {sv : Nat → Bool} {sg : Nat → Nat → Nat} (hC : Cx F RL cL_law 4 room_1) (hs : Sc F b L xs) (hab : (S0 ad).2.2 5000 = b) (hL : L ≤ 2560) (hi : i + 5 ≤ L) (hf : K.1 ≤ room_1.cells ∧ K.2 ≤ room_1.slots) (LL : LW X g n h pad len sv sg) (hn : ∀ X', LX X' → G F (S0 ad) K X' 913 [.ref 5000, .ref 0, .ref 201, .int (nI i)] []) : G F (S0 ad) K X 762 [.ref 5000, .ref 0, .ref 201, .int (nI i)] [] := by
  obtain ⟨C, hCb, hCe⟩ := lgC_N (xs (i + 1)) (xs (i + 2))
  unfold lgC at hCe
  refine g_aload_1 hC dL_law_762 (pc' := 763) rfl ?_
  refine g_aload_0 hC dL_law_763 (pc' := 764) rfl ?_
  refine g_iload_3 hC dL_law_764 (pc' := 765) rfl ?_
  refine g_iconst hC dL_law_765 (pc' := 766) kc_iconst_1 rfl ?_
  refine g_iaddN hC dL_law_766 (pc' := 767) rfl ?_
  refine g_sld hC hs hab hL (by omega) dL_law_767 (pc' := 768) rfl ?_
  refine g_i2l hC dL_law_768 (pc' := 769) (rfl) rfl ?_
  refine g_bipush hC dL_law_769 (pc' := 771) kc_bipush_32 rfl ?_
  refine g_lshl hC dL_law_771 (pc' := 772) (rfl) rfl ?_
  refine g_aload_0 hC dL_law_772 (pc' := 773) rfl ?_
  refine g_iload_3 hC dL_law_773 (pc' := 774) rfl ?_
  refine g_iconst hC dL_law_774 (pc' := 775) kc_iconst_2 rfl ?_
  refine g_iaddN hC dL_law_775 (pc' := 776) rfl ?_
  refine g_sld hC hs hab hL (by omega) dL_law_776 (pc' := 777) rfl ?_
  refine g_i2l hC dL_law_777 (pc' := 778) (rfl) rfl ?_
  refine g_ldc2 hC kl_L_89 dL_law_778 (pc' := 781) rfl ?_
  refine g_land hC dL_law_781 (pc' := 782) rfl ?_
  refine g_lor hC dL_law_782 (pc' := 783) rfl ?_
  rw [hCe]
  refine g_callV1I hC (k_put hCb LL.2.1.2.2.1) ml_L_91 (sh_cs ad) rfl ⟨(Nat.le_of_ble_eq_true rfl), (Nat.le_of_ble_eq_true rfl)⟩ (Nat.le_of_ble_eq_true rfl) dL_law_783 (pc' := 786) rfl hf (fun v783 X783 q783 => ?_)
  obtain ⟨rfl, c1, f1⟩ := q783
  have mm := LL.m (X1 := X783) (fun j hj => f1 j (by omega) (by omega))
  refine g_aload_2 hC dL_law_786 (pc' := 787) rfl ?_
  refine g_aload_0 hC dL_law_787 (pc' := 788) rfl ?_
  refine g_iload_3 hC dL_law_788 (pc' := 789) rfl ?_
  refine g_iconst hC dL_law_789 (pc' := 790) kc_iconst_1 rfl ?_
  refine g_iaddN hC dL_law_790 (pc' := 791) rfl ?_
  refine g_sld hC hs hab hL (by omega) dL_law_791 (pc' := 792) rfl ?_
  refine g_i2l hC dL_law_792 (pc' := 793) (rfl) rfl ?_
  refine g_bipush hC dL_law_793 (pc' := 795) kc_bipush_32 rfl ?_
  refine g_lshl hC dL_law_795 (pc' := 796) (rfl) rfl ?_
  refine g_aload_0 hC dL_law_796 (pc' := 797) rfl ?_
  refine g_iload_3 hC dL_law_797 (pc' := 798) rfl ?_
  refine g_iconst hC dL_law_798 (pc' := 799) kc_iconst_2 rfl ?_
  refine g_iaddN hC dL_law_799 (pc' := 800) rfl ?_
  refine g_sld hC hs hab hL (by omega) dL_law_800 (pc' := 801) rfl ?_
  refine g_i2l hC dL_law_801 (pc' := 802) (rfl) rfl ?_
  refine g_ldc2 hC kl_L_89 dL_law_802 (pc' := 805) rfl ?_
  refine g_land hC dL_law_805 (pc' := 806) rfl ?_
  refine g_lor hC dL_law_806 (pc' := 807) rfl ?_
  rw [hCe]
  refine g_callV1I hC (c_put hCb mm.2.1) ml_L_95 (sh_M ad) rfl ⟨(Nat.le_of_ble_eq_true rfl), (Nat.le_of_ble_eq_true rfl)⟩ (Nat.le_of_ble_eq_true rfl) dL_law_807 (pc' := 810) rfl hf (fun v807 X807 q807 => ?_)
  obtain ⟨rfl, c2, w2, v2⟩ := q807
  refine g_icmp_eq hC dL_law_810 (pc' := 813) (tgt := 913) (by decide) rfl (fun h810 => ?_) (fun h810 => by exact absurd rfl h810)
  exact hn _ (LL.p c1 f1 c2 w2 v2)

set_option maxHeartbeats 4000000 in
set_option maxRecDepth 100000 in
/-- wipe -/
theorem lw_c19 {F : gF} {b L i : Nat} {xs : Nat → Int32} {ad : Nat → Nat} {K : Nat × Nat} {X : gX} {g : Nat → Nat} {n len : Nat} {h : Nat → Nat → Nat} {pad : Nat → Nat} {sv : Nat → Bool} {sg : Nat → Nat → Nat} (hC : Cx F RL cL_law 4 room_1) (hs : Sc F b L xs) (hab : (S0 ad).2.2 5000 = b) (hL : L ≤ 2560) (hi : i + 5 ≤ L) (hf : K.1 ≤ room_1.cells ∧ K.2 ≤ room_1.slots) (LL : LW X g n h pad len sv sg) (hn : ∀ X', LX X' → G F (S0 ad) K X' 913 [.ref 5000, .ref 0, .ref 201, .int (nI i)] []) : G F (S0 ad) K X 815 [.ref 5000, .ref 0, .ref 201, .int (nI i)] [] := by
  refine g_aload_1 hC dL_law_815 (pc' := 816) rfl ?_
  refine g_callV0I hC (k_wipe LL.2.1.2.2.1.1) ml_L_96 (sh_cs ad) rfl ⟨(Nat.le_of_ble_eq_true rfl), (Nat.le_of_ble_eq_true rfl)⟩ (Nat.le_of_ble_eq_true rfl) dL_law_816 (pc' := 819) rfl hf (fun v816 X816 q816 => ?_)
  obtain ⟨rfl, rfl⟩ := q816
  refine g_aload_2 hC dL_law_819 (pc' := 820) rfl ?_
  refine g_callV0I hC (c_wipe ((congrFun (gu_ne 201 (by decide)) 7).trans LL.1.2.1.1)) ml_L_100 (sh_M ad) rfl ⟨(Nat.le_of_ble_eq_true rfl), (Nat.le_of_ble_eq_true rfl)⟩ (Nat.le_of_ble_eq_true rfl) dL_law_820 (pc' := 823) rfl hf (fun v820 X820 q820 => ?_)
  obtain ⟨rfl, rfl⟩ := q820
  refine g_icmp_eq hC dL_law_823 (pc' := 826) (tgt := 913) (by decide) rfl (fun h823 => ?_) (fun h823 => by exact absurd rfl h823)
  exact hn _ LL.w

set_option maxHeartbeats 4000000 in
set_option maxRecDepth 100000 in
/-- fault -/
theorem lw_c20 {F : gF} {b L i : Nat} {xs : Nat → Int32} {ad : Nat → Nat} {K : Nat × Nat} {X : gX} {g : Nat → Nat} {n len : Nat} {h : Nat → Nat → Nat} {pad : Nat → Nat} {sv : Nat → Bool} {sg : Nat → Nat → Nat} (hC : Cx F RL cL_law 4 room_1) (hs : Sc F b L xs) (hab : (S0 ad).2.2 5000 = b) (hL : L ≤ 2560) (hi : i + 5 ≤ L) (hf : K.1 ≤ room_1.cells ∧ K.2 ≤ room_1.slots) (LL : LW X g n h pad len sv sg) (hn : ∀ X', LX X' → G F (S0 ad) K X' 913 [.ref 5000, .ref 0, .ref 201, .int (nI i)] []) : G F (S0 ad) K X 828 [.ref 5000, .ref 0, .ref 201, .int (nI i)] [] := by
  refine g_aload_1 hC dL_law_828 (pc' := 829) rfl ?_
  refine g_callV0I hC (k_fault LL.2.1.2.2.1) ml_L_101 (sh_cs ad) rfl ⟨(Nat.le_of_ble_eq_true rfl), (Nat.le_of_ble_eq_true rfl)⟩ (Nat.le_of_ble_eq_true rfl) dL_law_829 (pc' := 832) rfl hf (fun v829 X829 q829 => ?_)
  obtain ⟨t1, f1⟩ := q829
  have mm := LL.m (X1 := X829) (fun j hj => f1 j (by omega))
  refine g_aload_2 hC dL_law_832 (pc' := 833) rfl ?_
  refine g_callV0I hC (c_fault mm.2.1) ml_L_104 (sh_M ad) rfl ⟨(Nat.le_of_ble_eq_true rfl), (Nat.le_of_ble_eq_true rfl)⟩ (Nat.le_of_ble_eq_true rfl) dL_law_833 (pc' := 836) rfl hf (fun v833 X833 q833 => ?_)
  obtain ⟨t2, w2, -⟩ := q833
  refine g_icmp_eq hC dL_law_836 (pc' := 839) (tgt := 913) (by decide) rfl (fun h836 => ?_) (fun h836 => by exact absurd (FT_u t1 t2) h836)
  exact hn _ (LL.f f1 w2)

set_option maxHeartbeats 4000000 in
set_option maxRecDepth 100000 in
/-- carryOut -/
theorem lw_c21 {F : gF} {b L i : Nat} {xs : Nat → Int32} {ad : Nat → Nat} {K : Nat × Nat} {X : gX} {g : Nat → Nat} {n len : Nat} {h : Nat → Nat → Nat} {pad : Nat → Nat} {sv : Nat → Bool} {sg : Nat → Nat → Nat} (hC : Cx F RL cL_law 4 room_1) (hs : Sc F b L xs) (hab : (S0 ad).2.2 5000 = b) (hL : L ≤ 2560) (hi : i + 5 ≤ L) (hf : K.1 ≤ room_1.cells ∧ K.2 ≤ room_1.slots) (LL : LW X g n h pad len sv sg) (hn : ∀ X', LX X' → G F (S0 ad) K X' 913 [.ref 5000, .ref 0, .ref 201, .int (nI i)] []) : G F (S0 ad) K X 841 [.ref 5000, .ref 0, .ref 201, .int (nI i)] [] := by
  refine g_aload_1 hC dL_law_841 (pc' := 842) rfl ?_
  refine g_callV0I hC (k_carryOut LL.2.1.2.2.1 LL.2.1.1 LL.2.1.2.1 LL.2.2.1) ml_L_105 (sh_cs ad) rfl ⟨(Nat.le_of_ble_eq_true rfl), (Nat.le_of_ble_eq_true rfl)⟩ (Nat.le_of_ble_eq_true rfl) dL_law_842 (pc' := 845) rfl hf (fun v842 X842 q842 => ?_)
  obtain ⟨rfl, c1, p1, f1⟩ := q842
  have mm := LL.m (X1 := X842) (fun j hj => f1 j (by omega) (by omega) (by omega))
  refine g_aload_2 hC dL_law_845 (pc' := 846) rfl ?_
  refine g_callV0I hC (c_carryOut mm.2.1 mm.1 LL.2.2.1) ml_L_108 (sh_M ad) rfl ⟨(Nat.le_of_ble_eq_true rfl), (Nat.le_of_ble_eq_true rfl)⟩ (Nat.le_of_ble_eq_true rfl) dL_law_846 (pc' := 849) rfl hf (fun v846 X846 q846 => ?_)
  obtain ⟨rfl, c2, p2, w2⟩ := q846
  refine g_icmp_eq hC dL_law_849 (pc' := 852) (tgt := 913) (by decide) rfl (fun h849 => ?_) (fun h849 => by exact absurd rfl h849)
  exact hn _ (LL.o c1 p1 f1 c2 p2 w2)

set_option maxHeartbeats 4000000 in
set_option maxRecDepth 100000 in
/-- undo -/
theorem lw_c22 {F : gF} {b L i : Nat} {xs : Nat → Int32} {ad : Nat → Nat} {K : Nat × Nat} {X : gX} {g : Nat → Nat} {n len : Nat} {h : Nat → Nat → Nat} {pad : Nat → Nat} {sv : Nat → Bool} {sg : Nat → Nat → Nat} (hC : Cx F RL cL_law 4 room_1) (hs : Sc F b L xs) (hab : (S0 ad).2.2 5000 = b) (hL : L ≤ 2560) (hi : i + 5 ≤ L) (hf : K.1 ≤ room_1.cells ∧ K.2 ≤ room_1.slots) (LL : LW X g n h pad len sv sg) (hn : ∀ X', LX X' → G F (S0 ad) K X' 913 [.ref 5000, .ref 0, .ref 201, .int (nI i)] []) : G F (S0 ad) K X 854 [.ref 5000, .ref 0, .ref 201, .int (nI i)] [] := by
  refine g_aload_1 hC dL_law_854 (pc' := 855) rfl ?_
  refine g_callV0I hC (k_undo LL.2.1.2.1) ml_L_109 (sh_cs ad) rfl ⟨(Nat.le_of_ble_eq_true rfl), (Nat.le_of_ble_eq_true rfl)⟩ (Nat.le_of_ble_eq_true rfl) dL_law_855 (pc' := 858) rfl hf (fun v855 X855 q855 => ?_)
  obtain ⟨rfl, c1, f1⟩ := q855
  have mm := LL.m (X1 := X855) (fun j hj => f1 j (by omega))
  refine g_aload_2 hC dL_law_858 (pc' := 859) rfl ?_
  refine g_callV0I hC (c_undo mm.1) ml_L_112 (sh_M ad) rfl ⟨(Nat.le_of_ble_eq_true rfl), (Nat.le_of_ble_eq_true rfl)⟩ (Nat.le_of_ble_eq_true rfl) dL_law_859 (pc' := 862) rfl hf (fun v859 X859 q859 => ?_)
  obtain ⟨rfl, c2⟩ := q859
  refine g_icmp_eq hC dL_law_862 (pc' := 865) (tgt := 913) (by decide) rfl (fun h862 => ?_) (fun h862 => by exact absurd rfl h862)
  exact hn _ (LL.u c1 f1 c2)

set_option maxHeartbeats 4000000 in
set_option maxRecDepth 100000 in
/-- save -/
theorem lw_c23 {F : gF} {b L i : Nat} {xs : Nat → Int32} {ad : Nat → Nat} {K : Nat × Nat} {X : gX} {g : Nat → Nat} {n len : Nat} {h : Nat → Nat → Nat} {pad : Nat → Nat} {sv : Nat → Bool} {sg : Nat → Nat → Nat} (hC : Cx F RL cL_law 4 room_1) (hs : Sc F b L xs) (hab : (S0 ad).2.2 5000 = b) (hL : L ≤ 2560) (hi : i + 5 ≤ L) (hf : K.1 ≤ room_1.cells ∧ K.2 ≤ room_1.slots) (LL : LW X g n h pad len sv sg) (hn : ∀ X', LX X' → G F (S0 ad) K X' 913 [.ref 5000, .ref 0, .ref 201, .int (nI i)] []) : G F (S0 ad) K X 867 [.ref 5000, .ref 0, .ref 201, .int (nI i)] [] := by
  refine g_aload_1 hC dL_law_867 (pc' := 868) rfl ?_
  refine g_aload_0 hC dL_law_868 (pc' := 869) rfl ?_
  refine g_iload_3 hC dL_law_869 (pc' := 870) rfl ?_
  refine g_iconst hC dL_law_870 (pc' := 871) kc_iconst_1 rfl ?_
  refine g_iaddN hC dL_law_871 (pc' := 872) rfl ?_
  refine g_sld hC hs hab hL (by omega) dL_law_872 (pc' := 873) rfl ?_
  refine g_callV1I hC (k_save LL.2.1.2.2.2 LL.2.1.1 LL.2.2.1) ml_L_113 (sh_cs ad) rfl ⟨(Nat.le_of_ble_eq_true rfl), (Nat.le_of_ble_eq_true rfl)⟩ (Nat.le_of_ble_eq_true rfl) dL_law_873 (pc' := 876) rfl hf (fun v873 X873 q873 => ?_)
  obtain ⟨rfl, c1, f1⟩ := q873
  have mm := LL.m (X1 := X873) (fun j hj => f1 j (by omega))
  refine g_aload_2 hC dL_law_876 (pc' := 877) rfl ?_
  refine g_aload_0 hC dL_law_877 (pc' := 878) rfl ?_
  refine g_iload_3 hC dL_law_878 (pc' := 879) rfl ?_
  refine g_iconst hC dL_law_879 (pc' := 880) kc_iconst_1 rfl ?_
  refine g_iaddN hC dL_law_880 (pc' := 881) rfl ?_
  refine g_sld hC hs hab hL (by omega) dL_law_881 (pc' := 882) rfl ?_
  refine g_callV1I hC (c_save mm.2.2 mm.1.1 LL.2.2.1) ml_L_116 (sh_M ad) rfl ⟨(Nat.le_of_ble_eq_true rfl), (Nat.le_of_ble_eq_true rfl)⟩ (Nat.le_of_ble_eq_true rfl) dL_law_882 (pc' := 885) rfl hf (fun v882 X882 q882 => ?_)
  obtain ⟨rfl, c2, w2⟩ := q882
  refine g_icmp_eq hC dL_law_885 (pc' := 888) (tgt := 913) (by decide) rfl (fun h885 => ?_) (fun h885 => by exact absurd rfl h885)
  exact hn _ (LL.s c1 f1 c2 w2)

set_option maxHeartbeats 4000000 in
set_option maxRecDepth 100000 in
/-- restore -/
theorem lw_c24 {F : gF} {b L i : Nat} {xs : Nat → Int32} {ad : Nat → Nat} {K : Nat × Nat} {X : gX} {g : Nat → Nat} {n len : Nat} {h : Nat → Nat → Nat} {pad : Nat → Nat} {sv : Nat → Bool} {sg : Nat → Nat → Nat} (hC : Cx F RL cL_law 4 room_1) (hs : Sc F b L xs) (hab : (S0 ad).2.2 5000 = b) (hL : L ≤ 2560) (hi : i + 5 ≤ L) (hf : K.1 ≤ room_1.cells ∧ K.2 ≤ room_1.slots) (LL : LW X g n h pad len sv sg) (hn : ∀ X', LX X' → G F (S0 ad) K X' 913 [.ref 5000, .ref 0, .ref 201, .int (nI i)] []) : G F (S0 ad) K X 890 [.ref 5000, .ref 0, .ref 201, .int (nI i)] [] := by
  refine g_aload_1 hC dL_law_890 (pc' := 891) rfl ?_
  refine g_aload_0 hC dL_law_891 (pc' := 892) rfl ?_
  refine g_iload_3 hC dL_law_892 (pc' := 893) rfl ?_
  refine g_iconst hC dL_law_893 (pc' := 894) kc_iconst_1 rfl ?_
  refine g_iaddN hC dL_law_894 (pc' := 895) rfl ?_
  refine g_sld hC hs hab hL (by omega) dL_law_895 (pc' := 896) rfl ?_
  refine g_callV1I hC (k_restore LL.2.1.2.2.2 LL.2.2.2.2 LL.2.1.1 LL.2.1.2.1 LL.2.2.1) ml_L_117 (sh_cs ad) rfl ⟨(Nat.le_of_ble_eq_true rfl), (Nat.le_of_ble_eq_true rfl)⟩ (Nat.le_of_ble_eq_true rfl) dL_law_896 (pc' := 899) rfl hf (fun v896 X896 q896 => ?_)
  obtain ⟨rfl, c1, f1⟩ := q896
  have mm := LL.m (X1 := X896) (fun j hj => f1 j (by omega))
  refine g_aload_2 hC dL_law_899 (pc' := 900) rfl ?_
  refine g_aload_0 hC dL_law_900 (pc' := 901) rfl ?_
  refine g_iload_3 hC dL_law_901 (pc' := 902) rfl ?_
  refine g_iconst hC dL_law_902 (pc' := 903) kc_iconst_1 rfl ?_
  refine g_iaddN hC dL_law_903 (pc' := 904) rfl ?_
  refine g_sld hC hs hab hL (by omega) dL_law_904 (pc' := 905) rfl ?_
  refine g_callV1I hC (c_restore mm.2.2 LL.2.2.2.2 mm.1 LL.2.2.1) ml_L_120 (sh_M ad) rfl ⟨(Nat.le_of_ble_eq_true rfl), (Nat.le_of_ble_eq_true rfl)⟩ (Nat.le_of_ble_eq_true rfl) dL_law_905 (pc' := 908) rfl hf (fun v905 X905 q905 => ?_)
  obtain ⟨rfl, c2, w2⟩ := q905
  refine g_icmp_eq hC dL_law_908 (pc' := 911) (tgt := 913) (by decide) rfl (fun h908 => ?_) (fun h908 => by exact absurd rfl h908)
  exact hn _ (LL.c c1 f1 c2 w2 (fun hk => Inv_rest LL hk))
