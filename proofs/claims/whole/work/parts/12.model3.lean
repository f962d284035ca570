abbrev cl (v : Int32) : Nat := v.toNatClampNeg
theorem cl_nI {n : Nat} (h : n < 1073741824) : cl (nI n) = n := nI_clamp (by omega)
theorem inB_low {m : Int32} {e : Nat} (he : e < 1073741824) (h : inB m (nI 0) (lI e) = true) : ∃ k, m = nI k ∧ k < e := by
  obtain ⟨h1, h2⟩ := inB_iff.mp h
  have hz : ¬ m < 0 := by
    rw [Int32.le_iff_toInt_le, nI_toInt (by omega)] at h1
    rw [Int32.lt_iff_toInt_lt]
    simp; omega
  obtain ⟨j, hj, rfl⟩ := nI_of hz
  refine ⟨j, rfl, ?_⟩
  rw [Int32.le_iff_toInt_le, lI_toInt he, nI_toInt (by omega)] at h2
  omega
def vOfSheet (g : Nat → Nat) (a w : Int32) : Int32 := if inB a (nI 0) (nI 4) = true then (if w = nI 0 then nI (g (4 + cl a)) else if w = nI 1 then nI (g (9 + cl a)) else if w = nI 2 then (if inS g (cl a) = true then nI 0 else nI 1) else if w = nI 3 then nI (marks g (cl a) false) else if w = nI 4 then nI (marks g (cl a) true) else if w = nI 5 then nI (msk (kset g (cl a) 1) 10) else if w = nI 6 then nI (msk (kset g (cl a) 2) 10) else if w = nI 7 then nI (g (14 + cl a)) else -2) else -1
def vReading (g : Nat → Nat) (a b w : Int32) : Int32 := if inB a (nI 0) (nI 4) = true then (if inB b (nI 0) (nI 9) = true then (if w = nI 0 then nI (kind g (cl a) (cl b)) else if w = nI 1 then valI g (cl a) (cl b) else if w = nI 2 then strI g (cl a) (cl b) else if w = nI 3 then nI (cnt g (cl a) (cl b)) else if w = nI 4 then nI (cnB (rd g (cl a) (cl b)) (cnt g (cl a) (cl b))) else -2) else -1) else -1
def vOfMark (g : Nat → Nat) (a b m w : Int32) : Int32 := if inB a (nI 0) (nI 4) = true then (if inB b (nI 0) (nI 9) = true then (if inB m (nI 0) (lI (cnt g (cl a) (cl b))) = true then (if w = nI 0 then nI (mk g (cl a) (cl b) (cl m) / 20) else if w = nI 1 then nI (mk g (cl a) (cl b) (cl m) / 2 % 10) else if w = nI 2 then nI (mk g (cl a) (cl b) (cl m) % 2) else -2) else -1) else -1) else -1
theorem Inv.t {g : Nat → Nat} (h : Inv g) {t : Nat} (ht : t < 5) : g (4 + t) ≤ 4 ∧ g (9 + t) ≤ 300 ∧ g (14 + t) < 1024 := h.2.1 t ht

set_option maxHeartbeats 4000000 in
set_option maxRecDepth 100000 in
theorem c_ofSheet {l : Launch} {ad : Nat → Nat} {X : gX} {a w : Int32} {g : Nat → Nat} (hR : RM X g) (hI : Inv g) : K_X7_ofSheet l ad [.ref 201, .int (a), .int (w)] X (pR X (vOfSheet g a w)) := by
  refine Ct.of [.ref 201, .int (a), .int (w)] 0 (by decide +kernel) rfl (Nat.le_of_ble_eq_true rfl) (fun F hl hC hRt _ => ?_)
  subst hl
  refine g_iload_1 hC dX7_ofSheet_0 (pc' := 1) rfl ?_
  refine g_callS1R hC (c_isSheet) ml_X7_50 ⟨(Nat.le_of_ble_eq_true rfl), (Nat.le_of_ble_eq_true rfl)⟩ (Nat.le_of_ble_eq_true rfl) dX7_ofSheet_1 (pc' := 4) rfl ⟨Nat.zero_le _, Nat.zero_le _⟩ ?_
  refine g_ifZ_ne hC dX7_ofSheet_4 (pc' := 7) (tgt := 9) (by decide) rfl (fun h4 => ?_) (fun h4 => ?_)
  · obtain ⟨s, rfl, -, hs⟩ := inB_N (by decide) h4 (by decide)
    have cs : cl (nI s) = s := cl_nI (by omega)
    refine g_iload_2 hC dX7_ofSheet_9 (pc' := 10) rfl ?_
    by_cases s10_0 : (w) = nI 0
    · refine g_tabI hC 0 dX7_ofSheet_10 s10_0 (by decide) (by decide) (by decide) (off := 42) rfl (tgt := 52) (by decide) ?_
      subst s10_0
      refine g_aload_0 hC dX7_ofSheet_52 (pc' := 53) rfl ?_
      refine g_getR hC fl_X7_7 (sh_M ad) rfl dX7_ofSheet_53 (pc' := 56) rfl ?_
      refine g_iconst hC dX7_ofSheet_56 (pc' := 57) kc_iconst_4 rfl ?_
      refine g_iload_1 hC dX7_ofSheet_57 (pc' := 58) rfl ?_
      refine g_iaddN hC dX7_ofSheet_58 (pc' := 59) rfl ?_
      refine g_iald hC (sh_mnow ad) (Nat.le_of_ble_eq_true rfl) (by omega) (hR.at (by omega) (by omega)) dX7_ofSheet_59 (pc' := 60) rfl ?_
      refine g_iretR hC hRt rfl dX7_ofSheet_60 ?_
      simp only [vOfSheet, cl_nI, h4, cs, ↓reduceIte, Bool.false_eq_true]
    by_cases s10_1 : (w) = nI 1
    · refine g_tabI hC 1 dX7_ofSheet_10 s10_1 (by decide) (by decide) (by decide) (off := 51) rfl (tgt := 61) (by decide) ?_
      subst s10_1
      refine g_aload_0 hC dX7_ofSheet_61 (pc' := 62) rfl ?_
      refine g_getR hC fl_X7_7 (sh_M ad) rfl dX7_ofSheet_62 (pc' := 65) rfl ?_
      refine g_bipush hC dX7_ofSheet_65 (pc' := 67) kc_bipush_9 rfl ?_
      refine g_iload_1 hC dX7_ofSheet_67 (pc' := 68) rfl ?_
      refine g_iaddN hC dX7_ofSheet_68 (pc' := 69) rfl ?_
      refine g_iald hC (sh_mnow ad) (Nat.le_of_ble_eq_true rfl) (by omega) (hR.at (by omega) (by omega)) dX7_ofSheet_69 (pc' := 70) rfl ?_
      refine g_iretR hC hRt rfl dX7_ofSheet_70 ?_
      simp only [vOfSheet, cl_nI, h4, cs, eq_false s10_0, ↓reduceIte, Bool.false_eq_true]
    by_cases s10_2 : (w) = nI 2
    · refine g_tabI hC 2 dX7_ofSheet_10 s10_2 (by decide) (by decide) (by decide) (off := 61) rfl (tgt := 71) (by decide) ?_
      subst s10_2
      refine g_aload_0 hC dX7_ofSheet_71 (pc' := 72) rfl ?_
      refine g_iload_1 hC dX7_ofSheet_72 (pc' := 73) rfl ?_
      refine g_callV1R hC (c_isInStack (s := s) (by omega) hR hI) ml_X7_54 (sh_M ad) rfl ⟨(Nat.le_of_ble_eq_true rfl), (Nat.le_of_ble_eq_true rfl)⟩ (Nat.le_of_ble_eq_true rfl) dX7_ofSheet_73 (pc' := 76) rfl ⟨Nat.zero_le _, Nat.zero_le _⟩ ?_
      refine g_ifZ_eq hC dX7_ofSheet_76 (pc' := 79) (tgt := 83) (by decide) rfl (fun h76 => ?_) (fun h76 => ?_)
      · refine g_iconst hC dX7_ofSheet_83 (pc' := 84) kc_iconst_1 rfl ?_
        refine g_iretR hC hRt rfl dX7_ofSheet_84 ?_
        simp only [vOfSheet, cl_nI, h4, cs, eq_false s10_0, eq_false s10_1, h76, ↓reduceIte, Bool.false_eq_true]
      · refine g_iconst hC dX7_ofSheet_79 (pc' := 80) kc_iconst_0 rfl ?_
        refine g_goto hC dX7_ofSheet_80 (tgt := 84) (by decide) ?_
        refine g_iretR hC hRt rfl dX7_ofSheet_84 ?_
        simp only [vOfSheet, cl_nI, h4, cs, eq_false s10_0, eq_false s10_1, h76, ↓reduceIte, Bool.false_eq_true]
    by_cases s10_3 : (w) = nI 3
    · refine g_tabI hC 3 dX7_ofSheet_10 s10_3 (by decide) (by decide) (by decide) (off := 75) rfl (tgt := 85) (by decide) ?_
      subst s10_3
      refine g_aload_0 hC dX7_ofSheet_85 (pc' := 86) rfl ?_
      refine g_iload_1 hC dX7_ofSheet_86 (pc' := 87) rfl ?_
      refine g_iload_2 hC dX7_ofSheet_87 (pc' := 88) rfl ?_
      refine g_iconst hC dX7_ofSheet_88 (pc' := 89) kc_iconst_4 rfl ?_
      refine g_icmpN_ne hC dX7_ofSheet_89 (pc' := 92) (tgt := 96) (by decide) rfl (by omega) (by omega) (fun h89 => ?_) (fun h89 => by omega)
      refine g_iconst hC dX7_ofSheet_96 (pc' := 97) kc_iconst_0 rfl ?_
      refine g_callV2R hC (c_marksOf (b := false) (by omega) hR hI) ml_X7_117 (sh_M ad) rfl ⟨(Nat.le_of_ble_eq_true rfl), (Nat.le_of_ble_eq_true rfl)⟩ (Nat.le_of_ble_eq_true rfl) dX7_ofSheet_97 (pc' := 100) rfl ⟨Nat.zero_le _, Nat.zero_le _⟩ ?_
      refine g_iretR hC hRt rfl dX7_ofSheet_100 ?_
      simp only [vOfSheet, cl_nI, h4, cs, eq_false s10_0, eq_false s10_1, eq_false s10_2, ↓reduceIte, Bool.false_eq_true]
    by_cases s10_4 : (w) = nI 4
    · refine g_tabI hC 4 dX7_ofSheet_10 s10_4 (by decide) (by decide) (by decide) (off := 75) rfl (tgt := 85) (by decide) ?_
      subst s10_4
      refine g_aload_0 hC dX7_ofSheet_85 (pc' := 86) rfl ?_
      refine g_iload_1 hC dX7_ofSheet_86 (pc' := 87) rfl ?_
      refine g_iload_2 hC dX7_ofSheet_87 (pc' := 88) rfl ?_
      refine g_iconst hC dX7_ofSheet_88 (pc' := 89) kc_iconst_4 rfl ?_
      refine g_icmpN_ne hC dX7_ofSheet_89 (pc' := 92) (tgt := 96) (by decide) rfl (by omega) (by omega) (fun h89 => by omega) (fun h89 => ?_)
      refine g_iconst hC dX7_ofSheet_92 (pc' := 93) kc_iconst_1 rfl ?_
      refine g_goto hC dX7_ofSheet_93 (tgt := 97) (by decide) ?_
      refine g_callV2R hC (c_marksOf (b := true) (by omega) hR hI) ml_X7_117 (sh_M ad) rfl ⟨(Nat.le_of_ble_eq_true rfl), (Nat.le_of_ble_eq_true rfl)⟩ (Nat.le_of_ble_eq_true rfl) dX7_ofSheet_97 (pc' := 100) rfl ⟨Nat.zero_le _, Nat.zero_le _⟩ ?_
      refine g_iretR hC hRt rfl dX7_ofSheet_100 ?_
      simp only [vOfSheet, cl_nI, h4, cs, eq_false s10_0, eq_false s10_1, eq_false s10_2, eq_false s10_3, ↓reduceIte, Bool.false_eq_true]
    by_cases s10_5 : (w) = nI 5
    · refine g_tabI hC 5 dX7_ofSheet_10 s10_5 (by decide) (by decide) (by decide) (off := 91) rfl (tgt := 101) (by decide) ?_
      subst s10_5
      refine g_aload_0 hC dX7_ofSheet_101 (pc' := 102) rfl ?_
      refine g_iload_1 hC dX7_ofSheet_102 (pc' := 103) rfl ?_
      refine g_iload_2 hC dX7_ofSheet_103 (pc' := 104) rfl ?_
      refine g_iconst hC dX7_ofSheet_104 (pc' := 105) kc_iconst_4 rfl ?_
      refine g_isubN hC dX7_ofSheet_105 (pc' := 106) rfl (by omega) ?_
      refine g_callV2R hC (c_fieldsOf (c := 1) (by omega) (by decide) hR hI) ml_X7_121 (sh_M ad) rfl ⟨(Nat.le_of_ble_eq_true rfl), (Nat.le_of_ble_eq_true rfl)⟩ (Nat.le_of_ble_eq_true rfl) dX7_ofSheet_106 (pc' := 109) rfl ⟨Nat.zero_le _, Nat.zero_le _⟩ ?_
      refine g_iretR hC hRt rfl dX7_ofSheet_109 ?_
      simp only [vOfSheet, cl_nI, h4, cs, eq_false s10_0, eq_false s10_1, eq_false s10_2, eq_false s10_3, eq_false s10_4, ↓reduceIte, Bool.false_eq_true]
    by_cases s10_6 : (w) = nI 6
    · refine g_tabI hC 6 dX7_ofSheet_10 s10_6 (by decide) (by decide) (by decide) (off := 91) rfl (tgt := 101) (by decide) ?_
      subst s10_6
      refine g_aload_0 hC dX7_ofSheet_101 (pc' := 102) rfl ?_
      refine g_iload_1 hC dX7_ofSheet_102 (pc' := 103) rfl ?_
      refine g_iload_2 hC dX7_ofSheet_103 (pc' := 104) rfl ?_
      refine g_iconst hC dX7_ofSheet_104 (pc' := 105) kc_iconst_4 rfl ?_
      refine g_isubN hC dX7_ofSheet_105 (pc' := 106) rfl (by omega) ?_
      refine g_callV2R hC (c_fieldsOf (c := 2) (by omega) (by decide) hR hI) ml_X7_121 (sh_M ad) rfl ⟨(Nat.le_of_ble_eq_true rfl), (Nat.le_of_ble_eq_true rfl)⟩ (Nat.le_of_ble_eq_true rfl) dX7_ofSheet_106 (pc' := 109) rfl ⟨Nat.zero_le _, Nat.zero_le _⟩ ?_
      refine g_iretR hC hRt rfl dX7_ofSheet_109 ?_
      simp only [vOfSheet, cl_nI, h4, cs, eq_false s10_0, eq_false s10_1, eq_false s10_2, eq_false s10_3, eq_false s10_4, eq_false s10_5, ↓reduceIte, Bool.false_eq_true]
    refine g_tabO hC dX7_ofSheet_10 (fun j hj => by
      have : j ≤ 6 := by omega
      match j, this with
      | 0, _ => exact s10_0
      | 1, _ => exact s10_1
      | 2, _ => exact s10_2
      | 3, _ => exact s10_3
      | 4, _ => exact s10_4
      | 5, _ => exact s10_5
      | 6, _ => exact s10_6
      | j + 7, h => exact absurd h (by omega)) (tgt := 110) (by decide) ?_
    refine g_iload_2 hC dX7_ofSheet_110 (pc' := 111) rfl ?_
    refine g_bipush hC dX7_ofSheet_111 (pc' := 113) kc_bipush_7 rfl ?_
    refine g_icmp_ne hC dX7_ofSheet_113 (pc' := 116) (tgt := 128) (by decide) rfl (fun h113 => ?_) (fun h113 => ?_)
    · refine g_bipush hC dX7_ofSheet_128 (pc' := 130) kc_bipush_m2 rfl ?_
      refine g_iretR hC hRt rfl dX7_ofSheet_130 ?_
      simp only [vOfSheet, cl_nI, h4, cs, eq_false s10_0, eq_false s10_1, eq_false s10_2, eq_false s10_3, eq_false s10_4, eq_false s10_5, eq_false s10_6, eq_false h113, ↓reduceIte, Bool.false_eq_true]
    · refine g_aload_0 hC dX7_ofSheet_116 (pc' := 117) rfl ?_
      refine g_getR hC fl_X7_7 (sh_M ad) rfl dX7_ofSheet_117 (pc' := 120) rfl ?_
      refine g_bipush hC dX7_ofSheet_120 (pc' := 122) kc_bipush_14 rfl ?_
      refine g_iload_1 hC dX7_ofSheet_122 (pc' := 123) rfl ?_
      refine g_iaddN hC dX7_ofSheet_123 (pc' := 124) rfl ?_
      refine g_iald hC (sh_mnow ad) (Nat.le_of_ble_eq_true rfl) (by omega) (hR.at (by omega) (by omega)) dX7_ofSheet_124 (pc' := 125) rfl ?_
      refine g_goto hC dX7_ofSheet_125 (tgt := 130) (by decide) ?_
      refine g_iretR hC hRt rfl dX7_ofSheet_130 ?_
      simp only [vOfSheet, cl_nI, h4, cs, eq_false s10_0, eq_false s10_1, eq_false s10_2, eq_false s10_3, eq_false s10_4, eq_false s10_5, eq_false s10_6, eq_true h113, ↓reduceIte, Bool.false_eq_true]
  · refine g_iconst hC dX7_ofSheet_7 (pc' := 8) kc_iconst_m1 rfl ?_
    refine g_iretR hC hRt rfl dX7_ofSheet_8 ?_
    simp only [vOfSheet, cl_nI, h4, ↓reduceIte, Bool.false_eq_true]

set_option maxHeartbeats 4000000 in
set_option maxRecDepth 100000 in
theorem c_reading {l : Launch} {ad : Nat → Nat} {X : gX} {a b w : Int32} {g : Nat → Nat} (hR : RM X g) (hI : Inv g) : K_X7_reading l ad [.ref 201, .int (a), .int (b), .int (w)] X (pR X (vReading g a b w)) := by
  refine Ct.of [.ref 201, .int (a), .int (b), .int (w), .null, .null] 2 (by decide +kernel) rfl (Nat.le_of_ble_eq_true rfl) (fun F hl hC hRt _ => ?_)
  subst hl
  refine g_iload_1 hC dX7_reading_0 (pc' := 1) rfl ?_
  refine g_callS1R hC (c_isSheet) ml_X7_50 ⟨(Nat.le_of_ble_eq_true rfl), (Nat.le_of_ble_eq_true rfl)⟩ (Nat.le_of_ble_eq_true rfl) dX7_reading_1 (pc' := 4) rfl ⟨Nat.zero_le _, Nat.zero_le _⟩ ?_
  refine g_ifZ_eq hC dX7_reading_4 (pc' := 7) (tgt := 14) (by decide) rfl (fun h4 => ?_) (fun h4 => ?_)
  · refine g_iconst hC dX7_reading_14 (pc' := 15) kc_iconst_m1 rfl ?_
    refine g_iretR hC hRt rfl dX7_reading_15 ?_
    simp only [vReading, cl_nI, h4, ↓reduceIte, Bool.false_eq_true]
  · obtain ⟨s, rfl, -, hs⟩ := inB_N (by decide) h4 (by decide)
    have cs : cl (nI s) = s := cl_nI (by omega)
    refine g_iload_2 hC dX7_reading_7 (pc' := 8) rfl ?_
    refine g_callS1R hC (c_isField) ml_X7_75 ⟨(Nat.le_of_ble_eq_true rfl), (Nat.le_of_ble_eq_true rfl)⟩ (Nat.le_of_ble_eq_true rfl) dX7_reading_8 (pc' := 11) rfl ⟨Nat.zero_le _, Nat.zero_le _⟩ ?_
    refine g_ifZ_ne hC dX7_reading_11 (pc' := 14) (tgt := 16) (by decide) rfl (fun h11 => ?_) (fun h11 => ?_)
    · obtain ⟨f, rfl, -, hf⟩ := inB_N (by decide) h11 (by decide)
      have cf : cl (nI f) = f := cl_nI (by omega)
      have bc := hI.c (show s < 5 by omega) (show f < 10 by omega)
      refine g_iconst hC dX7_reading_16 (pc' := 17) kc_iconst_0 rfl ?_
      refine g_istore_4 hC dX7_reading_17 (pc' := 19) rfl (Nat.le_of_ble_eq_true rfl) rfl ?_
      refine g_iconst hC dX7_reading_19 (pc' := 20) kc_iconst_0 rfl ?_
      refine g_istore_5 hC dX7_reading_20 (pc' := 22) rfl (Nat.le_of_ble_eq_true rfl) rfl ?_
      have L22 : ∀ k, k ≤ cnt g s f → G F (S0 ad) (0, 0) X 22 [.ref 201, .int (nI s), .int (nI f), .int (w), .int (nI (cnB (rd g s f) k)), .int (nI k)] [] := by
        refine up_ind _ (fun k hk22 ih22 => ?_)
        refine g_iload_5 hC dX7_reading_22 (pc' := 24) rfl ?_
        refine g_aload_0 hC dX7_reading_24 (pc' := 25) rfl ?_
        refine g_iload_1 hC dX7_reading_25 (pc' := 26) rfl ?_
        refine g_iload_2 hC dX7_reading_26 (pc' := 27) rfl ?_
        refine g_callV2R hC (c_many (s := s) (f := f) (by omega) (by omega) hR) ml_X7_61 (sh_M ad) rfl ⟨(Nat.le_of_ble_eq_true rfl), (Nat.le_of_ble_eq_true rfl)⟩ (Nat.le_of_ble_eq_true rfl) dX7_reading_27 (pc' := 30) rfl ⟨Nat.zero_le _, Nat.zero_le _⟩ ?_
        refine g_icmpN_ge hC dX7_reading_30 (pc' := 33) (tgt := 64) (by decide) rfl (by omega) (by omega) (fun h30 => ?_) (fun h30 => ?_)
        · refine g_iload_3 hC dX7_reading_64 (pc' := 65) rfl ?_
          by_cases s65_0 : (w) = nI 0
          · refine g_tabI hC 0 dX7_reading_65 s65_0 (by decide) (by decide) (by decide) (off := 31) rfl (tgt := 96) (by decide) ?_
            subst s65_0
            refine g_aload_0 hC dX7_reading_96 (pc' := 97) rfl ?_
            refine g_iload_1 hC dX7_reading_97 (pc' := 98) rfl ?_
            refine g_iload_2 hC dX7_reading_98 (pc' := 99) rfl ?_
            refine g_callV2R hC (c_stateOf (s := s) (f := f) (by omega) (by omega) hR hI) ml_X7_114 (sh_M ad) rfl ⟨(Nat.le_of_ble_eq_true rfl), (Nat.le_of_ble_eq_true rfl)⟩ (Nat.le_of_ble_eq_true rfl) dX7_reading_99 (pc' := 102) rfl ⟨Nat.zero_le _, Nat.zero_le _⟩ ?_
            refine g_iretR hC hRt rfl dX7_reading_102 ?_
            simp only [vReading, cl_nI, h4, cs, h11, cf, ↓reduceIte, Bool.false_eq_true]
          by_cases s65_1 : (w) = nI 1
          · refine g_tabI hC 1 dX7_reading_65 s65_1 (by decide) (by decide) (by decide) (off := 38) rfl (tgt := 103) (by decide) ?_
            subst s65_1
            refine g_aload_0 hC dX7_reading_103 (pc' := 104) rfl ?_
            refine g_iload_1 hC dX7_reading_104 (pc' := 105) rfl ?_
            refine g_iload_2 hC dX7_reading_105 (pc' := 106) rfl ?_
            refine g_iload_3 hC dX7_reading_106 (pc' := 107) rfl ?_
            refine g_iconst hC dX7_reading_107 (pc' := 108) kc_iconst_1 rfl ?_
            refine g_isubN hC dX7_reading_108 (pc' := 109) rfl (by omega) ?_
            refine g_callV3R hC (c_lastOf0 (s := s) (f := f) (by omega) (by omega) hR hI) ml_X7_124 (sh_M ad) rfl ⟨(Nat.le_of_ble_eq_true rfl), (Nat.le_of_ble_eq_true rfl)⟩ (Nat.le_of_ble_eq_true rfl) dX7_reading_109 (pc' := 112) rfl ⟨Nat.zero_le _, Nat.zero_le _⟩ ?_
            refine g_iretR hC hRt rfl dX7_reading_112 ?_
            simp only [vReading, cl_nI, h4, cs, h11, cf, eq_false s65_0, ↓reduceIte, Bool.false_eq_true]
          by_cases s65_2 : (w) = nI 2
          · refine g_tabI hC 2 dX7_reading_65 s65_2 (by decide) (by decide) (by decide) (off := 38) rfl (tgt := 103) (by decide) ?_
            subst s65_2
            refine g_aload_0 hC dX7_reading_103 (pc' := 104) rfl ?_
            refine g_iload_1 hC dX7_reading_104 (pc' := 105) rfl ?_
            refine g_iload_2 hC dX7_reading_105 (pc' := 106) rfl ?_
            refine g_iload_3 hC dX7_reading_106 (pc' := 107) rfl ?_
            refine g_iconst hC dX7_reading_107 (pc' := 108) kc_iconst_1 rfl ?_
            refine g_isubN hC dX7_reading_108 (pc' := 109) rfl (by omega) ?_
            refine g_callV3R hC (c_lastOf1 (s := s) (f := f) (by omega) (by omega) hR hI) ml_X7_124 (sh_M ad) rfl ⟨(Nat.le_of_ble_eq_true rfl), (Nat.le_of_ble_eq_true rfl)⟩ (Nat.le_of_ble_eq_true rfl) dX7_reading_109 (pc' := 112) rfl ⟨Nat.zero_le _, Nat.zero_le _⟩ ?_
            refine g_iretR hC hRt rfl dX7_reading_112 ?_
            simp only [vReading, cl_nI, h4, cs, h11, cf, eq_false s65_0, eq_false s65_1, ↓reduceIte, Bool.false_eq_true]
          by_cases s65_3 : (w) = nI 3
          · refine g_tabI hC 3 dX7_reading_65 s65_3 (by decide) (by decide) (by decide) (off := 48) rfl (tgt := 113) (by decide) ?_
            subst s65_3
            refine g_aload_0 hC dX7_reading_113 (pc' := 114) rfl ?_
            refine g_iload_1 hC dX7_reading_114 (pc' := 115) rfl ?_
            refine g_iload_2 hC dX7_reading_115 (pc' := 116) rfl ?_
            refine g_callV2R hC (c_many (s := s) (f := f) (by omega) (by omega) hR) ml_X7_61 (sh_M ad) rfl ⟨(Nat.le_of_ble_eq_true rfl), (Nat.le_of_ble_eq_true rfl)⟩ (Nat.le_of_ble_eq_true rfl) dX7_reading_116 (pc' := 119) rfl ⟨Nat.zero_le _, Nat.zero_le _⟩ ?_
            refine g_iretR hC hRt rfl dX7_reading_119 ?_
            simp only [vReading, cl_nI, h4, cs, h11, cf, eq_false s65_0, eq_false s65_1, eq_false s65_2, ↓reduceIte, Bool.false_eq_true]
          refine g_tabO hC dX7_reading_65 (fun j hj => by
            have : j ≤ 3 := by omega
            match j, this with
            | 0, _ => exact s65_0
            | 1, _ => exact s65_1
            | 2, _ => exact s65_2
            | 3, _ => exact s65_3
            | j + 4, h => exact absurd h (by omega)) (tgt := 120) (by decide) ?_
          refine g_iload_3 hC dX7_reading_120 (pc' := 121) rfl ?_
          refine g_iconst hC dX7_reading_121 (pc' := 122) kc_iconst_4 rfl ?_
          refine g_icmp_ne hC dX7_reading_122 (pc' := 125) (tgt := 130) (by decide) rfl (fun h122 => ?_) (fun h122 => ?_)
          · refine g_bipush hC dX7_reading_130 (pc' := 132) kc_bipush_m2 rfl ?_
            refine g_iretR hC hRt rfl dX7_reading_132 ?_
            simp only [vReading, cl_nI, h4, cs, h11, cf, eq_false s65_0, eq_false s65_1, eq_false s65_2, eq_false s65_3, eq_false h122, ↓reduceIte, Bool.false_eq_true]
          · refine g_iload_4 hC dX7_reading_125 (pc' := 127) rfl ?_
            refine g_goto hC dX7_reading_127 (tgt := 132) (by decide) ?_
            refine g_iretR hC hRt rfl dX7_reading_132 ?_
            rw [show k = cnt g s f by omega]
            simp only [vReading, cl_nI, h4, cs, h11, cf, eq_false s65_0, eq_false s65_1, eq_false s65_2, eq_false s65_3, eq_true h122, ↓reduceIte, Bool.false_eq_true]
        · refine g_iload_4 hC dX7_reading_33 (pc' := 35) rfl ?_
          refine g_aload_0 hC dX7_reading_35 (pc' := 36) rfl ?_
          refine g_aload_0 hC dX7_reading_36 (pc' := 37) rfl ?_
          refine g_iload_1 hC dX7_reading_37 (pc' := 38) rfl ?_
          refine g_iload_2 hC dX7_reading_38 (pc' := 39) rfl ?_
          refine g_iload_5 hC dX7_reading_39 (pc' := 41) rfl ?_
          refine g_callV3R hC (c_markAt (s := s) (f := f) (k := k) (by omega) (by omega) (by omega) hR) ml_X7_64 (sh_M ad) rfl ⟨(Nat.le_of_ble_eq_true rfl), (Nat.le_of_ble_eq_true rfl)⟩ (Nat.le_of_ble_eq_true rfl) dX7_reading_41 (pc' := 44) rfl ⟨Nat.zero_le _, Nat.zero_le _⟩ ?_
          refine g_callV1R hC (c_isReadable (hI.m (by omega) (by omega) (by omega)) hR hI) ml_X7_105 (sh_M ad) rfl ⟨(Nat.le_of_ble_eq_true rfl), (Nat.le_of_ble_eq_true rfl)⟩ (Nat.le_of_ble_eq_true rfl) dX7_reading_44 (pc' := 47) rfl ⟨Nat.zero_le _, Nat.zero_le _⟩ ?_
          refine g_ifZ_eq hC dX7_reading_47 (pc' := 50) (tgt := 54) (by decide) rfl (fun h47 => ?_) (fun h47 => ?_)
          · refine g_iconst hC dX7_reading_54 (pc' := 55) kc_iconst_0 rfl ?_
            refine g_iaddN hC dX7_reading_55 (pc' := 56) rfl ?_
            refine g_istore_4 hC dX7_reading_56 (pc' := 58) rfl (Nat.le_of_ble_eq_true rfl) rfl ?_
            refine g_iinc_5 hC dX7_reading_58 (pc' := 61) rfl (Nat.le_of_ble_eq_true rfl) rfl (nI_inc _ _ kc_iinc_1) ?_
            refine g_goto hC dX7_reading_61 (tgt := 22) (by decide) ?_
            exact g_weak (ih22 (by omega)) (gle_s (gle_s (gle_s (gle_s (gle_i (by simp [cnB, rd, h47]) (gle_i (by first | rfl | omega) gle_nil))))))
          · refine g_iconst hC dX7_reading_50 (pc' := 51) kc_iconst_1 rfl ?_
            refine g_goto hC dX7_reading_51 (tgt := 55) (by decide) ?_
            refine g_iaddN hC dX7_reading_55 (pc' := 56) rfl ?_
            refine g_istore_4 hC dX7_reading_56 (pc' := 58) rfl (Nat.le_of_ble_eq_true rfl) rfl ?_
            refine g_iinc_5 hC dX7_reading_58 (pc' := 61) rfl (Nat.le_of_ble_eq_true rfl) rfl (nI_inc _ _ kc_iinc_1) ?_
            refine g_goto hC dX7_reading_61 (tgt := 22) (by decide) ?_
            exact g_weak (ih22 (by omega)) (gle_s (gle_s (gle_s (gle_s (gle_i (by simp [cnB, rd, h47]) (gle_i (by first | rfl | omega) gle_nil))))))
      exact g_weak (L22 0 (by exact Nat.zero_le _)) (gle_s (gle_s (gle_s (gle_s (gle_i (by rfl) (gle_s gle_nil))))))
    · refine g_iconst hC dX7_reading_14 (pc' := 15) kc_iconst_m1 rfl ?_
      refine g_iretR hC hRt rfl dX7_reading_15 ?_
      simp only [vReading, cl_nI, h4, cs, h11, ↓reduceIte, Bool.false_eq_true]

set_option maxHeartbeats 4000000 in
set_option maxRecDepth 100000 in
theorem c_ofMark {l : Launch} {ad : Nat → Nat} {X : gX} {a b m w : Int32} {g : Nat → Nat} (hR : RM X g) (hI : Inv g) : K_X7_ofMark l ad [.ref 201, .int (a), .int (b), .int (m), .int (w)] X (pR X (vOfMark g a b m w)) := by
  refine Ct.of [.ref 201, .int (a), .int (b), .int (m), .int (w), .null] 1 (by decide +kernel) rfl (Nat.le_of_ble_eq_true rfl) (fun F hl hC hRt _ => ?_)
  subst hl
  refine g_iload_1 hC dX7_ofMark_0 (pc' := 1) rfl ?_
  refine g_callS1R hC (c_isSheet) ml_X7_50 ⟨(Nat.le_of_ble_eq_true rfl), (Nat.le_of_ble_eq_true rfl)⟩ (Nat.le_of_ble_eq_true rfl) dX7_ofMark_1 (pc' := 4) rfl ⟨Nat.zero_le _, Nat.zero_le _⟩ ?_
  refine g_ifZ_eq hC dX7_ofMark_4 (pc' := 7) (tgt := 30) (by decide) rfl (fun h4 => ?_) (fun h4 => ?_)
  · refine g_iconst hC dX7_ofMark_30 (pc' := 31) kc_iconst_m1 rfl ?_
    refine g_iretR hC hRt rfl dX7_ofMark_31 ?_
    simp only [vOfMark, cl_nI, h4, ↓reduceIte, Bool.false_eq_true]
  · obtain ⟨s, rfl, -, hs⟩ := inB_N (by decide) h4 (by decide)
    have cs : cl (nI s) = s := cl_nI (by omega)
    refine g_iload_2 hC dX7_ofMark_7 (pc' := 8) rfl ?_
    refine g_callS1R hC (c_isField) ml_X7_75 ⟨(Nat.le_of_ble_eq_true rfl), (Nat.le_of_ble_eq_true rfl)⟩ (Nat.le_of_ble_eq_true rfl) dX7_ofMark_8 (pc' := 11) rfl ⟨Nat.zero_le _, Nat.zero_le _⟩ ?_
    refine g_ifZ_eq hC dX7_ofMark_11 (pc' := 14) (tgt := 30) (by decide) rfl (fun h11 => ?_) (fun h11 => ?_)
    · refine g_iconst hC dX7_ofMark_30 (pc' := 31) kc_iconst_m1 rfl ?_
      refine g_iretR hC hRt rfl dX7_ofMark_31 ?_
      simp only [vOfMark, cl_nI, h4, cs, h11, ↓reduceIte, Bool.false_eq_true]
    · obtain ⟨f, rfl, -, hf⟩ := inB_N (by decide) h11 (by decide)
      have cf : cl (nI f) = f := cl_nI (by omega)
      have bc := hI.c (show s < 5 by omega) (show f < 10 by omega)
      refine g_iload_3 hC dX7_ofMark_14 (pc' := 15) rfl ?_
      refine g_iconst hC dX7_ofMark_15 (pc' := 16) kc_iconst_0 rfl ?_
      refine g_aload_0 hC dX7_ofMark_16 (pc' := 17) rfl ?_
      refine g_iload_1 hC dX7_ofMark_17 (pc' := 18) rfl ?_
      refine g_iload_2 hC dX7_ofMark_18 (pc' := 19) rfl ?_
      refine g_callV2R hC (c_many (s := s) (f := f) (by omega) (by omega) hR) ml_X7_61 (sh_M ad) rfl ⟨(Nat.le_of_ble_eq_true rfl), (Nat.le_of_ble_eq_true rfl)⟩ (Nat.le_of_ble_eq_true rfl) dX7_ofMark_19 (pc' := 22) rfl ⟨Nat.zero_le _, Nat.zero_le _⟩ ?_
      refine g_iconst hC dX7_ofMark_22 (pc' := 23) kc_iconst_1 rfl ?_
      refine g_isub hC dX7_ofMark_23 (pc' := 24) rfl ?_
      refine g_callS3R hC (c_in (b := lI (cnt g s f))) ml_X7_43 ⟨(Nat.le_of_ble_eq_true rfl), (Nat.le_of_ble_eq_true rfl)⟩ (Nat.le_of_ble_eq_true rfl) dX7_ofMark_24 (pc' := 27) rfl ⟨Nat.zero_le _, Nat.zero_le _⟩ ?_
      refine g_ifZ_ne hC dX7_ofMark_27 (pc' := 30) (tgt := 32) (by decide) rfl (fun h27 => ?_) (fun h27 => ?_)
      · obtain ⟨k, rfl, hk⟩ := inB_low (by omega) h27
        have ck : cl (nI k) = k := cl_nI (by omega)
        have bm : mk g s f k < 20000 := hI.m (by omega) (by omega) (by omega)
        refine g_aload_0 hC dX7_ofMark_32 (pc' := 33) rfl ?_
        refine g_iload_1 hC dX7_ofMark_33 (pc' := 34) rfl ?_
        refine g_iload_2 hC dX7_ofMark_34 (pc' := 35) rfl ?_
        refine g_iload_3 hC dX7_ofMark_35 (pc' := 36) rfl ?_
        refine g_callV3R hC (c_markAt (s := s) (f := f) (k := k) (by omega) (by omega) (by omega) hR) ml_X7_64 (sh_M ad) rfl ⟨(Nat.le_of_ble_eq_true rfl), (Nat.le_of_ble_eq_true rfl)⟩ (Nat.le_of_ble_eq_true rfl) dX7_ofMark_36 (pc' := 39) rfl ⟨Nat.zero_le _, Nat.zero_le _⟩ ?_
        refine g_istore_5 hC dX7_ofMark_39 (pc' := 41) rfl (Nat.le_of_ble_eq_true rfl) rfl ?_
        refine g_iload_4 hC dX7_ofMark_41 (pc' := 43) rfl ?_
        refine g_ifI_ne hC dX7_ofMark_43 (pc' := 46) (tgt := 54) (by decide) rfl (fun h43 => ?_) (fun h43 => ?_)
        · refine g_iload_4 hC dX7_ofMark_54 (pc' := 56) rfl ?_
          refine g_iconst hC dX7_ofMark_56 (pc' := 57) kc_iconst_1 rfl ?_
          refine g_icmp_ne hC dX7_ofMark_57 (pc' := 60) (tgt := 68) (by decide) rfl (fun h57 => ?_) (fun h57 => ?_)
          · refine g_iload_4 hC dX7_ofMark_68 (pc' := 70) rfl ?_
            refine g_iconst hC dX7_ofMark_70 (pc' := 71) kc_iconst_2 rfl ?_
            refine g_icmp_ne hC dX7_ofMark_71 (pc' := 74) (tgt := 81) (by decide) rfl (fun h71 => ?_) (fun h71 => ?_)
            · refine g_bipush hC dX7_ofMark_81 (pc' := 83) kc_bipush_m2 rfl ?_
              refine g_iretR hC hRt rfl dX7_ofMark_83 ?_
              simp only [vOfMark, cl_nI, h4, cs, h11, cf, h27, ck, eq_false h43, eq_false h57, eq_false h71, ↓reduceIte, Bool.false_eq_true]
            · refine g_iload_5 hC dX7_ofMark_74 (pc' := 76) rfl ?_
              refine g_iconst hC dX7_ofMark_76 (pc' := 77) kc_iconst_2 rfl ?_
              refine g_iremN hC dX7_ofMark_77 (pc' := 78) rfl (by omega) (by omega) (by omega) ?_
              refine g_goto hC dX7_ofMark_78 (tgt := 83) (by decide) ?_
              refine g_iretR hC hRt rfl dX7_ofMark_83 ?_
              simp only [vOfMark, cl_nI, h4, cs, h11, cf, h27, ck, eq_false h43, eq_false h57, eq_true h71, ↓reduceIte, Bool.false_eq_true]
          · refine g_iload_5 hC dX7_ofMark_60 (pc' := 62) rfl ?_
            refine g_callS1R hC (c_strengthOf bm) ml_X7_71 ⟨(Nat.le_of_ble_eq_true rfl), (Nat.le_of_ble_eq_true rfl)⟩ (Nat.le_of_ble_eq_true rfl) dX7_ofMark_62 (pc' := 65) rfl ⟨Nat.zero_le _, Nat.zero_le _⟩ ?_
            refine g_goto hC dX7_ofMark_65 (tgt := 83) (by decide) ?_
            refine g_iretR hC hRt rfl dX7_ofMark_83 ?_
            simp only [vOfMark, cl_nI, h4, cs, h11, cf, h27, ck, eq_false h43, eq_true h57, ↓reduceIte, Bool.false_eq_true]
        · refine g_iload_5 hC dX7_ofMark_46 (pc' := 48) rfl ?_
          refine g_callS1R hC (c_valueOf bm) ml_X7_111 ⟨(Nat.le_of_ble_eq_true rfl), (Nat.le_of_ble_eq_true rfl)⟩ (Nat.le_of_ble_eq_true rfl) dX7_ofMark_48 (pc' := 51) rfl ⟨Nat.zero_le _, Nat.zero_le _⟩ ?_
          refine g_goto hC dX7_ofMark_51 (tgt := 83) (by decide) ?_
          refine g_iretR hC hRt rfl dX7_ofMark_83 ?_
          simp only [vOfMark, cl_nI, h4, cs, h11, cf, h27, ck, eq_true h43, ↓reduceIte, Bool.false_eq_true]
      · refine g_iconst hC dX7_ofMark_30 (pc' := 31) kc_iconst_m1 rfl ?_
        refine g_iretR hC hRt rfl dX7_ofMark_31 ?_
        simp only [vOfMark, cl_nI, h4, cs, h11, cf, h27, ↓reduceIte, Bool.false_eq_true]
