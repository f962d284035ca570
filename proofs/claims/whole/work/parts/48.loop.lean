set_option maxHeartbeats 4000000 in
set_option maxRecDepth 100000 in
theorem lw_loop {F : gF} {b L : Nat} {xs : Nat → Int32} {ad : Nat → Nat} {K : Nat × Nat} (hC : Cx F RL cL_law 4 room_1) (hs : Sc F b L xs) (hab : (S0 ad).2.2 5000 = b) (hL : L ≤ 2560) (hf : K.1 ≤ room_1.cells ∧ K.2 ≤ room_1.slots) (hw : Lw F b) : ∀ k i X, i ≤ 2570 → L + 5 < i + k → LX X → G F (S0 ad) K X 18 [.ref 5000, .ref 0, .ref 201, .int (nI i)] [] := by
  have step : ∀ i X, i ≤ 2570 → LX X → (∀ X', i + 5 ≤ L → LX X' → G F (S0 ad) K X' 18 [.ref 5000, .ref 0, .ref 201, .int (nI (i + 5))] []) → G F (S0 ad) K X 18 [.ref 5000, .ref 0, .ref 201, .int (nI i)] [] := by
    intro i X hi hX ih
    obtain ⟨g, n, h, pad, len, sv, sg, LL⟩ := hX
    refine g_iload_3 hC dL_law_18 (pc' := 19) rfl ?_
    refine g_aload_0 hC dL_law_19 (pc' := 20) rfl ?_
    refine g_slen hC hs hab dL_law_20 (pc' := 21) rfl ?_
    refine g_iconst hC dL_law_21 (pc' := 22) kc_iconst_5 rfl ?_
    refine g_isub hC dL_law_22 (pc' := 23) rfl ?_
    refine g_icmp_gt hC dL_law_23 (pc' := 26) (tgt := 919) (by decide) rfl (fun h23 => ?_) (fun h23 => ?_)
    · refine g_iconst hC dL_law_919 (pc' := 920) kc_iconst_1 rfl ?_
      exact g_lend hC hw hf dL_law_920
    · have hi5 : i + 5 ≤ L := Nat.not_lt.mp fun z => h23 ((lw_tst hi hL).mpr z)
      have hn : ∀ X', LX X' → G F (S0 ad) K X' 913 [.ref 5000, .ref 0, .ref 201, .int (nI i)] [] := fun X' hX' => by
        refine g_iinc_3 hC dL_law_913 (pc' := 916) rfl (Nat.le_of_ble_eq_true rfl) rfl (nI_inc _ _ kc_iinc_5) ?_
        refine g_goto hC dL_law_916 (tgt := 18) (by decide) ?_
        exact ih X' hi5 hX'
      refine g_aload_0 hC dL_law_26 (pc' := 27) rfl ?_
      refine g_iload_3 hC dL_law_27 (pc' := 28) rfl ?_
      refine g_sld hC hs hab hL (by omega) dL_law_28 (pc' := 29) rfl ?_
      refine g_bipush hC dL_law_29 (pc' := 31) kc_bipush_31 rfl ?_
      refine g_iand hC dL_law_31 (pc' := 32) rfl ?_
      by_cases s32_0 : ((xs i) &&& (nI 31)) = nI 0
      · refine g_tabI hC 0 dL_law_32 s32_0 (by decide) (by decide) (by decide) (off := 116) rfl (tgt := 148) (by decide) ?_
        exact lw_c0 hC hs hab hL (by omega) hf LL hn
      by_cases s32_1 : ((xs i) &&& (nI 31)) = nI 1
      · refine g_tabI hC 1 dL_law_32 s32_1 (by decide) (by decide) (by decide) (off := 149) rfl (tgt := 181) (by decide) ?_
        exact lw_c1 hC hs hab hL (by omega) hf LL hn
      by_cases s32_2 : ((xs i) &&& (nI 31)) = nI 2
      · refine g_tabI hC 2 dL_law_32 s32_2 (by decide) (by decide) (by decide) (off := 182) rfl (tgt := 214) (by decide) ?_
        exact lw_c2 hC hs hab hL (by omega) hf LL hn
      by_cases s32_3 : ((xs i) &&& (nI 31)) = nI 3
      · refine g_tabI hC 3 dL_law_32 s32_3 (by decide) (by decide) (by decide) (off := 215) rfl (tgt := 247) (by decide) ?_
        exact lw_c3 hC hs hab hL (by omega) hf LL hn
      by_cases s32_4 : ((xs i) &&& (nI 31)) = nI 4
      · refine g_tabI hC 4 dL_law_32 s32_4 (by decide) (by decide) (by decide) (off := 258) rfl (tgt := 290) (by decide) ?_
        exact lw_c4 hC hs hab hL (by omega) hf LL hn
      by_cases s32_5 : ((xs i) &&& (nI 31)) = nI 5
      · refine g_tabI hC 5 dL_law_32 s32_5 (by decide) (by decide) (by decide) (off := 291) rfl (tgt := 323) (by decide) ?_
        exact lw_c5 hC hs hab hL (by omega) hf LL hn
      by_cases s32_6 : ((xs i) &&& (nI 31)) = nI 6
      · refine g_tabI hC 6 dL_law_32 s32_6 (by decide) (by decide) (by decide) (off := 324) rfl (tgt := 356) (by decide) ?_
        exact lw_c6 hC hs hab hL (by omega) hf LL hn
      by_cases s32_7 : ((xs i) &&& (nI 31)) = nI 7
      · refine g_tabI hC 7 dL_law_32 s32_7 (by decide) (by decide) (by decide) (off := 377) rfl (tgt := 409) (by decide) ?_
        exact lw_c7 hC hs hab hL (by omega) hf LL hn
      by_cases s32_8 : ((xs i) &&& (nI 31)) = nI 8
      · refine g_tabI hC 8 dL_law_32 s32_8 (by decide) (by decide) (by decide) (off := 400) rfl (tgt := 432) (by decide) ?_
        exact lw_c8 hC hs hab hL (by omega) hf LL hn
      by_cases s32_9 : ((xs i) &&& (nI 31)) = nI 9
      · refine g_tabI hC 9 dL_law_32 s32_9 (by decide) (by decide) (by decide) (off := 433) rfl (tgt := 465) (by decide) ?_
        exact lw_c9 hC hs hab hL (by omega) hf LL hn
      by_cases s32_10 : ((xs i) &&& (nI 31)) = nI 10
      · refine g_tabI hC 10 dL_law_32 s32_10 (by decide) (by decide) (by decide) (off := 476) rfl (tgt := 508) (by decide) ?_
        exact lw_c10 hC hs hab hL (by omega) hf LL hn
      by_cases s32_11 : ((xs i) &&& (nI 31)) = nI 11
      · refine g_tabI hC 11 dL_law_32 s32_11 (by decide) (by decide) (by decide) (off := 529) rfl (tgt := 561) (by decide) ?_
        exact lw_c11 hC hs hab hL (by omega) hf LL hn
      by_cases s32_12 : ((xs i) &&& (nI 31)) = nI 12
      · refine g_tabI hC 12 dL_law_32 s32_12 (by decide) (by decide) (by decide) (off := 562) rfl (tgt := 594) (by decide) ?_
        exact lw_c12 hC hs hab hL (by omega) hf LL hn
      by_cases s32_13 : ((xs i) &&& (nI 31)) = nI 13
      · refine g_tabI hC 13 dL_law_32 s32_13 (by decide) (by decide) (by decide) (off := 585) rfl (tgt := 617) (by decide) ?_
        exact lw_c13 hC hs hab hL (by omega) hf LL hn
      by_cases s32_14 : ((xs i) &&& (nI 31)) = nI 14
      · refine g_tabI hC 14 dL_law_32 s32_14 (by decide) (by decide) (by decide) (off := 618) rfl (tgt := 650) (by decide) ?_
        exact lw_c14 hC hs hab hL (by omega) hf LL hn
      by_cases s32_15 : ((xs i) &&& (nI 31)) = nI 15
      · refine g_tabI hC 15 dL_law_32 s32_15 (by decide) (by decide) (by decide) (off := 641) rfl (tgt := 673) (by decide) ?_
        exact lw_c15 hC hs hab hL (by omega) hf LL hn
      by_cases s32_16 : ((xs i) &&& (nI 31)) = nI 16
      · refine g_tabI hC 16 dL_law_32 s32_16 (by decide) (by decide) (by decide) (off := 664) rfl (tgt := 696) (by decide) ?_
        exact lw_c16 hC hs hab hL (by omega) hf LL hn
      by_cases s32_17 : ((xs i) &&& (nI 31)) = nI 17
      · refine g_tabI hC 17 dL_law_32 s32_17 (by decide) (by decide) (by decide) (off := 687) rfl (tgt := 719) (by decide) ?_
        exact lw_c17 hC hs hab hL (by omega) hf LL hn
      by_cases s32_18 : ((xs i) &&& (nI 31)) = nI 18
      · refine g_tabI hC 18 dL_law_32 s32_18 (by decide) (by decide) (by decide) (off := 730) rfl (tgt := 762) (by decide) ?_
        exact lw_c18 hC hs hab hL (by omega) hf LL hn
      by_cases s32_19 : ((xs i) &&& (nI 31)) = nI 19
      · refine g_tabI hC 19 dL_law_32 s32_19 (by decide) (by decide) (by decide) (off := 783) rfl (tgt := 815) (by decide) ?_
        exact lw_c19 hC hs hab hL (by omega) hf LL hn
      by_cases s32_20 : ((xs i) &&& (nI 31)) = nI 20
      · refine g_tabI hC 20 dL_law_32 s32_20 (by decide) (by decide) (by decide) (off := 796) rfl (tgt := 828) (by decide) ?_
        exact lw_c20 hC hs hab hL (by omega) hf LL hn
      by_cases s32_21 : ((xs i) &&& (nI 31)) = nI 21
      · refine g_tabI hC 21 dL_law_32 s32_21 (by decide) (by decide) (by decide) (off := 809) rfl (tgt := 841) (by decide) ?_
        exact lw_c21 hC hs hab hL (by omega) hf LL hn
      by_cases s32_22 : ((xs i) &&& (nI 31)) = nI 22
      · refine g_tabI hC 22 dL_law_32 s32_22 (by decide) (by decide) (by decide) (off := 822) rfl (tgt := 854) (by decide) ?_
        exact lw_c22 hC hs hab hL (by omega) hf LL hn
      by_cases s32_23 : ((xs i) &&& (nI 31)) = nI 23
      · refine g_tabI hC 23 dL_law_32 s32_23 (by decide) (by decide) (by decide) (off := 835) rfl (tgt := 867) (by decide) ?_
        exact lw_c23 hC hs hab hL (by omega) hf LL hn
      by_cases s32_24 : ((xs i) &&& (nI 31)) = nI 24
      · refine g_tabI hC 24 dL_law_32 s32_24 (by decide) (by decide) (by decide) (off := 858) rfl (tgt := 890) (by decide) ?_
        exact lw_c24 hC hs hab hL (by omega) hf LL hn
      refine g_tabO hC dL_law_32 (fun j hj => by
        have : j ≤ 24 := by omega
        match j, this with
        | 0, _ => exact s32_0
        | 1, _ => exact s32_1
        | 2, _ => exact s32_2
        | 3, _ => exact s32_3
        | 4, _ => exact s32_4
        | 5, _ => exact s32_5
        | 6, _ => exact s32_6
        | 7, _ => exact s32_7
        | 8, _ => exact s32_8
        | 9, _ => exact s32_9
        | 10, _ => exact s32_10
        | 11, _ => exact s32_11
        | 12, _ => exact s32_12
        | 13, _ => exact s32_13
        | 14, _ => exact s32_14
        | 15, _ => exact s32_15
        | 16, _ => exact s32_16
        | 17, _ => exact s32_17
        | 18, _ => exact s32_18
        | 19, _ => exact s32_19
        | 20, _ => exact s32_20
        | 21, _ => exact s32_21
        | 22, _ => exact s32_22
        | 23, _ => exact s32_23
        | 24, _ => exact s32_24
        | j + 25, h => exact absurd h (by omega)) (tgt := 913) (by decide) ?_
      exact hn _ ⟨g, n, h, pad, len, sv, sg, LL⟩
  intro k
  induction k with
  | zero => exact fun i X hi hk hX => step i X hi hX (fun X' a c => absurd hk (by omega))
  | succ k ih => exact fun i X hi hk hX => step i X hi hX (fun X' a c => ih (i + 5) X' (by omega) (by omega) c)
