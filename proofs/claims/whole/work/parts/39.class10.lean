/-- what the class may touch where it only asks -/
def fA (X X' : gX) : Prop := ∀ i, (i < 4 ∨ (5 ≤ i ∧ i < 20) ∨ (42 ≤ i ∧ i ≠ 162)) → X' i = X i
theorem fA.rf {X : gX} : fA X X := fun _ _ => rfl
theorem fA.tr {X Y W : gX} (h : fA X Y) (h2 : fA Y W) : fA X W := fun i a => (h2 i a).trans (h i a)
theorem fA.a {X Y : gX} (e : ∀ i, i ≠ 1 + 3 → Y i = X i) : fA X Y := fun i a => e i (by omega)
theorem fA.t {X Y : gX} (e : ∀ i, i ≠ 39 → i ≠ 40 → i ≠ 41 → Y i = X i) : fA X Y := fun i a => e i (by omega) (by omega) (by omega)
theorem fA.o {X Y : gX} (e : fO 20 X Y) : fA X Y := fun i a => e i (by omega)
theorem fA.R {X Y : gX} {g : Nat → Nat} (f : fA X Y) (h : RS X 1 g) : RS Y 1 g := h.of (fun i _ _ _ => f i (by omega))
theorem inB_k {k e : Nat} (hk : k < 2147483648) (he : e < 1073741824) : inB (nI k) (nI 0) (lI e) = decide (k < e) := by
  have h0 : (nI 0) ≤ nI k := by rw [Int32.le_iff_toInt_le, nI_toInt hk, nI_toInt (by decide)]; omega
  unfold inB
  rw [decide_eq_true h0, Bool.true_and, decide_eq_decide, Int32.le_iff_toInt_le, nI_toInt hk, lI_toInt he]
  omega
theorem inB_neg {m b : Int32} (h : m < 0) : inB m (nI 0) b = false := inB_f1 h
theorem bar0 {g : Nat → Nat} {a v p : Int32} : barI g a v p = nI 0 ↔ okWrt g a v p = true := by
  constructor
  · intro h
    cases hz : okWrt g a v p with
    | true => rfl
    | false =>
      have := bar_neg hz
      rw [h] at this
      exact absurd this (by decide)
  · intro h
    obtain ⟨f, w, q, -, -, -, -, -, -, -, -, -, e⟩ := okWrt_iff h
    exact e

set_option maxHeartbeats 4000000 in
set_option maxRecDepth 100000 in
theorem k_ofSheet {l : Launch} {ad : Nat → Nat} {X : gX} {a w : Int32} {g : Nat → Nat} (hR : RS X 1 g) (hI : Inv g) : K_X6_ofSheet l ad [.ref 0, .int (a), .int (w)] X (pR X (vOfSheet g a w)) := by
  refine Ct.of [.ref 0, .int (a), .int (w), .null] 1 (by decide +kernel) rfl (Nat.le_of_ble_eq_true rfl) (fun F hl hC hRt _ => ?_)
  subst hl
  refine g_iload_1 hC dX6_ofSheet_0 (pc' := 1) rfl ?_
  refine g_callS1R hC (c_iSheet) ml_X6_67 ⟨(Nat.le_of_ble_eq_true rfl), (Nat.le_of_ble_eq_true rfl)⟩ (Nat.le_of_ble_eq_true rfl) dX6_ofSheet_1 (pc' := 4) rfl ⟨Nat.zero_le _, Nat.zero_le _⟩ ?_
  refine g_ifZ_ne hC dX6_ofSheet_4 (pc' := 7) (tgt := 9) (by decide) rfl (fun h4 => ?_) (fun h4 => ?_)
  · obtain ⟨s, rfl, -, hs⟩ := inB_N (by decide) h4 (by decide)
    have cs : cl (nI s) = s := cl_nI (by omega)
    refine g_aload_0 hC dX6_ofSheet_9 (pc' := 10) rfl ?_
    refine g_getR hC fl_X6_10 (sh_cs ad) rfl dX6_ofSheet_10 (pc' := 13) rfl ?_
    refine g_getR hC fl_X6_75 (sh_st ad isB_1) rfl dX6_ofSheet_13 (pc' := 16) rfl ?_
    refine g_iload_1 hC dX6_ofSheet_16 (pc' := 17) rfl ?_
    refine g_aald4 hC (sh_st1 ad isB_1) (Nat.le_of_ble_eq_true rfl) (by omega) (sheets_at (by omega)) dX6_ofSheet_17 (pc' := 18) rfl ?_
    refine g_astore_3 hC dX6_ofSheet_18 (pc' := 19) rfl (Nat.le_of_ble_eq_true rfl) rfl ?_
    refine g_iload_2 hC dX6_ofSheet_19 (pc' := 20) rfl ?_
    by_cases s20_0 : (w) = nI 0
    · refine g_tabI hC 0 dX6_ofSheet_20 s20_0 (by decide) (by decide) (by decide) (off := 48) rfl (tgt := 68) (by decide) ?_
      subst s20_0
      refine g_aload_3 hC dX6_ofSheet_68 (pc' := 69) rfl ?_
      refine g_getI hC fl_X6_79 (sh_sheet ad isB_1 (by omega)) rfl ((hR.2.2 s (by omega)).1.1) dX6_ofSheet_69 (pc' := 72) rfl ?_
      refine g_iretR hC hRt rfl dX6_ofSheet_72 ?_
      simp only [vOfSheet, cl_nI, h4, cs, ↓reduceIte, Bool.false_eq_true]
    by_cases s20_1 : (w) = nI 1
    · refine g_tabI hC 1 dX6_ofSheet_20 s20_1 (by decide) (by decide) (by decide) (off := 53) rfl (tgt := 73) (by decide) ?_
      subst s20_1
      refine g_aload_3 hC dX6_ofSheet_73 (pc' := 74) rfl ?_
      refine g_getI hC fl_X6_88 (sh_sheet ad isB_1 (by omega)) rfl ((hR.2.2 s (by omega)).1.2.1) dX6_ofSheet_74 (pc' := 77) rfl ?_
      refine g_iretR hC hRt rfl dX6_ofSheet_77 ?_
      simp only [vOfSheet, cl_nI, h4, cs, eq_false s20_0, ↓reduceIte, Bool.false_eq_true]
    by_cases s20_2 : (w) = nI 2
    · refine g_tabI hC 2 dX6_ofSheet_20 s20_2 (by decide) (by decide) (by decide) (off := 58) rfl (tgt := 78) (by decide) ?_
      subst s20_2
      refine g_aload_0 hC dX6_ofSheet_78 (pc' := 79) rfl ?_
      refine g_getR hC fl_X6_10 (sh_cs ad) rfl dX6_ofSheet_79 (pc' := 82) rfl ?_
      refine g_iload_1 hC dX6_ofSheet_82 (pc' := 83) rfl ?_
      refine g_callV1R hC (c_tIn isB_1 hR hI (s := s) (by omega)) ml_X6_85 (sh_st ad isB_1) rfl ⟨(Nat.le_of_ble_eq_true rfl), (Nat.le_of_ble_eq_true rfl)⟩ (Nat.le_of_ble_eq_true rfl) dX6_ofSheet_83 (pc' := 86) rfl ⟨Nat.zero_le _, Nat.zero_le _⟩ ?_
      refine g_ifZ_eq hC dX6_ofSheet_86 (pc' := 89) (tgt := 93) (by decide) rfl (fun h86 => ?_) (fun h86 => ?_)
      · refine g_iconst hC dX6_ofSheet_93 (pc' := 94) kc_iconst_1 rfl ?_
        refine g_iretR hC hRt rfl dX6_ofSheet_94 ?_
        simp only [vOfSheet, cl_nI, h4, cs, eq_false s20_0, eq_false s20_1, h86, ↓reduceIte, Bool.false_eq_true]
      · refine g_iconst hC dX6_ofSheet_89 (pc' := 90) kc_iconst_0 rfl ?_
        refine g_goto hC dX6_ofSheet_90 (tgt := 94) (by decide) ?_
        refine g_iretR hC hRt rfl dX6_ofSheet_94 ?_
        simp only [vOfSheet, cl_nI, h4, cs, eq_false s20_0, eq_false s20_1, h86, ↓reduceIte, Bool.false_eq_true]
    by_cases s20_3 : (w) = nI 3
    · refine g_tabI hC 3 dX6_ofSheet_20 s20_3 (by decide) (by decide) (by decide) (off := 75) rfl (tgt := 95) (by decide) ?_
      subst s20_3
      refine g_aload_3 hC dX6_ofSheet_95 (pc' := 96) rfl ?_
      refine g_callV0R hC (c_sAll isB_1 (t := s) (by omega) (hR.2.2 s (by omega)) hI) ml_X6_141 (sh_sheet ad isB_1 (by omega)) rfl ⟨(Nat.le_of_ble_eq_true rfl), (Nat.le_of_ble_eq_true rfl)⟩ (Nat.le_of_ble_eq_true rfl) dX6_ofSheet_96 (pc' := 99) rfl ⟨Nat.zero_le _, Nat.zero_le _⟩ ?_
      refine g_iretR hC hRt rfl dX6_ofSheet_99 ?_
      simp only [vOfSheet, cl_nI, h4, cs, eq_false s20_0, eq_false s20_1, eq_false s20_2, ↓reduceIte, Bool.false_eq_true]
    by_cases s20_4 : (w) = nI 4
    · refine g_tabI hC 4 dX6_ofSheet_20 s20_4 (by decide) (by decide) (by decide) (off := 80) rfl (tgt := 100) (by decide) ?_
      subst s20_4
      refine g_aload_3 hC dX6_ofSheet_100 (pc' := 101) rfl ?_
      refine g_callV0R hC (c_sStruckN isB_1 (t := s) (by omega) (hR.2.2 s (by omega)) hI) ml_X6_145 (sh_sheet ad isB_1 (by omega)) rfl ⟨(Nat.le_of_ble_eq_true rfl), (Nat.le_of_ble_eq_true rfl)⟩ (Nat.le_of_ble_eq_true rfl) dX6_ofSheet_101 (pc' := 104) rfl ⟨Nat.zero_le _, Nat.zero_le _⟩ ?_
      refine g_iretR hC hRt rfl dX6_ofSheet_104 ?_
      simp only [vOfSheet, cl_nI, h4, cs, eq_false s20_0, eq_false s20_1, eq_false s20_2, eq_false s20_3, ↓reduceIte, Bool.false_eq_true]
    by_cases s20_5 : (w) = nI 5
    · refine g_tabI hC 5 dX6_ofSheet_20 s20_5 (by decide) (by decide) (by decide) (off := 85) rfl (tgt := 105) (by decide) ?_
      subst s20_5
      refine g_aload_0 hC dX6_ofSheet_105 (pc' := 106) rfl ?_
      refine g_getR hC fl_X6_10 (sh_cs ad) rfl dX6_ofSheet_106 (pc' := 109) rfl ?_
      refine g_iconst hC dX6_ofSheet_109 (pc' := 110) kc_iconst_1 rfl ?_
      refine g_iload_1 hC dX6_ofSheet_110 (pc' := 111) rfl ?_
      refine g_callV2R hC (c_tFields isB_1 hR hI (s := s) (c := 1) (by omega) (by decide)) ml_X6_148 (sh_st ad isB_1) rfl ⟨(Nat.le_of_ble_eq_true rfl), (Nat.le_of_ble_eq_true rfl)⟩ (Nat.le_of_ble_eq_true rfl) dX6_ofSheet_111 (pc' := 114) rfl ⟨Nat.zero_le _, Nat.zero_le _⟩ ?_
      refine g_iretR hC hRt rfl dX6_ofSheet_114 ?_
      simp only [vOfSheet, cl_nI, h4, cs, eq_false s20_0, eq_false s20_1, eq_false s20_2, eq_false s20_3, eq_false s20_4, ↓reduceIte, Bool.false_eq_true]
    by_cases s20_6 : (w) = nI 6
    · refine g_tabI hC 6 dX6_ofSheet_20 s20_6 (by decide) (by decide) (by decide) (off := 95) rfl (tgt := 115) (by decide) ?_
      subst s20_6
      refine g_aload_0 hC dX6_ofSheet_115 (pc' := 116) rfl ?_
      refine g_getR hC fl_X6_10 (sh_cs ad) rfl dX6_ofSheet_116 (pc' := 119) rfl ?_
      refine g_iconst hC dX6_ofSheet_119 (pc' := 120) kc_iconst_2 rfl ?_
      refine g_iload_1 hC dX6_ofSheet_120 (pc' := 121) rfl ?_
      refine g_callV2R hC (c_tFields isB_1 hR hI (s := s) (c := 2) (by omega) (by decide)) ml_X6_148 (sh_st ad isB_1) rfl ⟨(Nat.le_of_ble_eq_true rfl), (Nat.le_of_ble_eq_true rfl)⟩ (Nat.le_of_ble_eq_true rfl) dX6_ofSheet_121 (pc' := 124) rfl ⟨Nat.zero_le _, Nat.zero_le _⟩ ?_
      refine g_iretR hC hRt rfl dX6_ofSheet_124 ?_
      simp only [vOfSheet, cl_nI, h4, cs, eq_false s20_0, eq_false s20_1, eq_false s20_2, eq_false s20_3, eq_false s20_4, eq_false s20_5, ↓reduceIte, Bool.false_eq_true]
    by_cases s20_7 : (w) = nI 7
    · refine g_tabI hC 7 dX6_ofSheet_20 s20_7 (by decide) (by decide) (by decide) (off := 105) rfl (tgt := 125) (by decide) ?_
      subst s20_7
      refine g_aload_3 hC dX6_ofSheet_125 (pc' := 126) rfl ?_
      refine g_getI hC fl_X6_151 (sh_sheet ad isB_1 (by omega)) rfl ((hR.2.2 s (by omega)).1.2.2) dX6_ofSheet_126 (pc' := 129) rfl ?_
      refine g_iretR hC hRt rfl dX6_ofSheet_129 ?_
      simp only [vOfSheet, cl_nI, h4, cs, eq_false s20_0, eq_false s20_1, eq_false s20_2, eq_false s20_3, eq_false s20_4, eq_false s20_5, eq_false s20_6, ↓reduceIte, Bool.false_eq_true]
    refine g_tabO hC dX6_ofSheet_20 (fun j hj => by
      have : j ≤ 7 := by omega
      match j, this with
      | 0, _ => exact s20_0
      | 1, _ => exact s20_1
      | 2, _ => exact s20_2
      | 3, _ => exact s20_3
      | 4, _ => exact s20_4
      | 5, _ => exact s20_5
      | 6, _ => exact s20_6
      | 7, _ => exact s20_7
      | j + 8, h => exact absurd h (by omega)) (tgt := 130) (by decide) ?_
    refine g_bipush hC dX6_ofSheet_130 (pc' := 132) kc_bipush_m2 rfl ?_
    refine g_iretR hC hRt rfl dX6_ofSheet_132 ?_
    simp only [vOfSheet, cl_nI, h4, cs, eq_false s20_0, eq_false s20_1, eq_false s20_2, eq_false s20_3, eq_false s20_4, eq_false s20_5, eq_false s20_6, eq_false s20_7, ↓reduceIte, Bool.false_eq_true]
  · refine g_iconst hC dX6_ofSheet_7 (pc' := 8) kc_iconst_m1 rfl ?_
    refine g_iretR hC hRt rfl dX6_ofSheet_8 ?_
    simp only [vOfSheet, cl_nI, h4, ↓reduceIte, Bool.false_eq_true]

set_option maxHeartbeats 4000000 in
set_option maxRecDepth 100000 in
theorem k_reading {l : Launch} {ad : Nat → Nat} {X : gX} {a c w : Int32} {g : Nat → Nat} (hR : RS X 1 g) (hI : Inv g) : K_X6_reading l ad [.ref 0, .int (a), .int (c), .int (w)] X (pR X (vReading g a c w)) := by
  refine Ct.of [.ref 0, .int (a), .int (c), .int (w), .null, .null] 2 (by decide +kernel) rfl (Nat.le_of_ble_eq_true rfl) (fun F hl hC hRt _ => ?_)
  subst hl
  refine g_iload_1 hC dX6_reading_0 (pc' := 1) rfl ?_
  refine g_callS1R hC (c_iSheet) ml_X6_67 ⟨(Nat.le_of_ble_eq_true rfl), (Nat.le_of_ble_eq_true rfl)⟩ (Nat.le_of_ble_eq_true rfl) dX6_reading_1 (pc' := 4) rfl ⟨Nat.zero_le _, Nat.zero_le _⟩ ?_
  refine g_ifZ_eq hC dX6_reading_4 (pc' := 7) (tgt := 14) (by decide) rfl (fun h4 => ?_) (fun h4 => ?_)
  · refine g_iconst hC dX6_reading_14 (pc' := 15) kc_iconst_m1 rfl ?_
    refine g_iretR hC hRt rfl dX6_reading_15 ?_
    simp only [vReading, cl_nI, h4, ↓reduceIte, Bool.false_eq_true]
  · obtain ⟨s, rfl, -, hs⟩ := inB_N (by decide) h4 (by decide)
    have cs : cl (nI s) = s := cl_nI (by omega)
    refine g_iload_2 hC dX6_reading_7 (pc' := 8) rfl ?_
    refine g_callS1R hC (c_iField) ml_X6_105 ⟨(Nat.le_of_ble_eq_true rfl), (Nat.le_of_ble_eq_true rfl)⟩ (Nat.le_of_ble_eq_true rfl) dX6_reading_8 (pc' := 11) rfl ⟨Nat.zero_le _, Nat.zero_le _⟩ ?_
    refine g_ifZ_ne hC dX6_reading_11 (pc' := 14) (tgt := 16) (by decide) rfl (fun h11 => ?_) (fun h11 => ?_)
    · obtain ⟨f, rfl, -, hf⟩ := inB_N (by decide) h11 (by decide)
      have cf : cl (nI f) = f := cl_nI (by omega)
      have bc := hI.c (show s < 5 by omega) (show f < 10 by omega)
      have bl := last_le g s f
      refine g_aload_0 hC dX6_reading_16 (pc' := 17) rfl ?_
      refine g_getR hC fl_X6_10 (sh_cs ad) rfl dX6_reading_17 (pc' := 20) rfl ?_
      refine g_getR hC fl_X6_75 (sh_st ad isB_1) rfl dX6_reading_20 (pc' := 23) rfl ?_
      refine g_iload_1 hC dX6_reading_23 (pc' := 24) rfl ?_
      refine g_aald4 hC (sh_st1 ad isB_1) (Nat.le_of_ble_eq_true rfl) (by omega) (sheets_at (by omega)) dX6_reading_24 (pc' := 25) rfl ?_
      refine g_astore_4 hC dX6_reading_25 (pc' := 27) rfl (Nat.le_of_ble_eq_true rfl) rfl ?_
      refine g_aload_4 hC dX6_reading_27 (pc' := 29) rfl ?_
      refine g_iload_2 hC dX6_reading_29 (pc' := 30) rfl ?_
      refine g_aload_0 hC dX6_reading_30 (pc' := 31) rfl ?_
      refine g_getR hC fl_X6_10 (sh_cs ad) rfl dX6_reading_31 (pc' := 34) rfl ?_
      refine g_getR hC fl_X6_63 (sh_st ad isB_1) rfl dX6_reading_34 (pc' := 37) rfl ?_
      refine g_iconst hC dX6_reading_37 (pc' := 38) kc_iconst_0 rfl ?_
      refine g_iald hC (sh_st2 ad isB_1) (Nat.le_of_ble_eq_true rfl) (by omega) (hR.1.1) dX6_reading_38 (pc' := 39) rfl ?_
      refine g_callV2R hC (c_sLast isB_1 (t := s) (by omega) (hR.2.2 s (by omega)) hI (f := f) (by omega)) ml_X6_154 (sh_sheet ad isB_1 (by omega)) rfl ⟨(Nat.le_of_ble_eq_true rfl), (Nat.le_of_ble_eq_true rfl)⟩ (Nat.le_of_ble_eq_true rfl) dX6_reading_39 (pc' := 42) rfl ⟨Nat.zero_le _, Nat.zero_le _⟩ ?_
      refine g_istore_5 hC dX6_reading_42 (pc' := 44) rfl (Nat.le_of_ble_eq_true rfl) rfl ?_
      refine g_iload_3 hC dX6_reading_44 (pc' := 45) rfl ?_
      by_cases s45_0 : (w) = nI 0
      · refine g_tabI hC 0 dX6_reading_45 s45_0 (by decide) (by decide) (by decide) (off := 35) rfl (tgt := 80) (by decide) ?_
        subst s45_0
        refine g_aload_0 hC dX6_reading_80 (pc' := 81) rfl ?_
        refine g_getR hC fl_X6_10 (sh_cs ad) rfl dX6_reading_81 (pc' := 84) rfl ?_
        refine g_iload_1 hC dX6_reading_84 (pc' := 85) rfl ?_
        refine g_iload_2 hC dX6_reading_85 (pc' := 86) rfl ?_
        refine g_callV2R hC (c_tKind isB_1 hR hI (s := s) (f := f) (by omega) (by omega)) ml_X6_157 (sh_st ad isB_1) rfl ⟨(Nat.le_of_ble_eq_true rfl), (Nat.le_of_ble_eq_true rfl)⟩ (Nat.le_of_ble_eq_true rfl) dX6_reading_86 (pc' := 89) rfl ⟨Nat.zero_le _, Nat.zero_le _⟩ ?_
        refine g_iretR hC hRt rfl dX6_reading_89 ?_
        simp only [vReading, cl_nI, h4, cs, h11, cf, ↓reduceIte, Bool.false_eq_true]
      by_cases s45_1 : (w) = nI 1
      · refine g_tabI hC 1 dX6_reading_45 s45_1 (by decide) (by decide) (by decide) (off := 45) rfl (tgt := 90) (by decide) ?_
        subst s45_1
        refine g_iload_5 hC dX6_reading_90 (pc' := 92) rfl ?_
        refine g_if_ge hC dX6_reading_92 (pc' := 95) (tgt := 100) (by decide) rfl (fun h92 => ?_) (fun h92 => ?_)
        · have hl : ¬ last g s f = 0 := (oI_ge (by omega)).mp h92
          rw [oI_pos hl]
          refine g_aload_4 hC dX6_reading_100 (pc' := 102) rfl ?_
          refine g_iload_2 hC dX6_reading_102 (pc' := 103) rfl ?_
          refine g_iload_5 hC dX6_reading_103 (pc' := 105) rfl ?_
          refine g_callV2R hC (c_sValue isB_1 (t := s) (by omega) (hR.2.2 s (by omega)) hI (f := f) (by omega) (k := last g s f - 1) (by omega)) ml_X6_160 (sh_sheet ad isB_1 (by omega)) rfl ⟨(Nat.le_of_ble_eq_true rfl), (Nat.le_of_ble_eq_true rfl)⟩ (Nat.le_of_ble_eq_true rfl) dX6_reading_105 (pc' := 108) rfl ⟨Nat.zero_le _, Nat.zero_le _⟩ ?_
          refine g_iretR hC hRt rfl dX6_reading_108 ?_
          simp only [vReading, cl_nI, valI, hl, own, h4, cs, h11, cf, eq_false s45_0, ↓reduceIte, Bool.false_eq_true]
        · have hl : last g s f = 0 := Decidable.not_not.mp (fun z => h92 ((oI_ge (by omega)).mpr z))
          refine g_bipush hC dX6_reading_95 (pc' := 97) kc_bipush_m6 rfl ?_
          refine g_goto hC dX6_reading_97 (tgt := 108) (by decide) ?_
          refine g_iretR hC hRt rfl dX6_reading_108 ?_
          simp only [vReading, cl_nI, valI, hl, own, h4, cs, h11, cf, eq_false s45_0, ↓reduceIte, Bool.false_eq_true]
      by_cases s45_2 : (w) = nI 2
      · refine g_tabI hC 2 dX6_reading_45 s45_2 (by decide) (by decide) (by decide) (off := 64) rfl (tgt := 109) (by decide) ?_
        subst s45_2
        refine g_iload_5 hC dX6_reading_109 (pc' := 111) rfl ?_
        refine g_if_ge hC dX6_reading_111 (pc' := 114) (tgt := 119) (by decide) rfl (fun h111 => ?_) (fun h111 => ?_)
        · have hl : ¬ last g s f = 0 := (oI_ge (by omega)).mp h111
          rw [oI_pos hl]
          refine g_aload_4 hC dX6_reading_119 (pc' := 121) rfl ?_
          refine g_iload_2 hC dX6_reading_121 (pc' := 122) rfl ?_
          refine g_iload_5 hC dX6_reading_122 (pc' := 124) rfl ?_
          refine g_callV2R hC (c_sStrength isB_1 (t := s) (by omega) (hR.2.2 s (by omega)) hI (f := f) (by omega) (k := last g s f - 1) (by omega)) ml_X6_163 (sh_sheet ad isB_1 (by omega)) rfl ⟨(Nat.le_of_ble_eq_true rfl), (Nat.le_of_ble_eq_true rfl)⟩ (Nat.le_of_ble_eq_true rfl) dX6_reading_124 (pc' := 127) rfl ⟨Nat.zero_le _, Nat.zero_le _⟩ ?_
          refine g_iretR hC hRt rfl dX6_reading_127 ?_
          simp only [vReading, cl_nI, strI, hl, own, h4, cs, h11, cf, eq_false s45_0, eq_false s45_1, ↓reduceIte, Bool.false_eq_true]
        · have hl : last g s f = 0 := Decidable.not_not.mp (fun z => h111 ((oI_ge (by omega)).mpr z))
          refine g_bipush hC dX6_reading_114 (pc' := 116) kc_bipush_m6 rfl ?_
          refine g_goto hC dX6_reading_116 (tgt := 127) (by decide) ?_
          refine g_iretR hC hRt rfl dX6_reading_127 ?_
          simp only [vReading, cl_nI, strI, hl, own, h4, cs, h11, cf, eq_false s45_0, eq_false s45_1, ↓reduceIte, Bool.false_eq_true]
      by_cases s45_3 : (w) = nI 3
      · refine g_tabI hC 3 dX6_reading_45 s45_3 (by decide) (by decide) (by decide) (off := 83) rfl (tgt := 128) (by decide) ?_
        subst s45_3
        refine g_aload_4 hC dX6_reading_128 (pc' := 130) rfl ?_
        refine g_getR hC fl_X6_131 (sh_sheet ad isB_1 (by omega)) rfl dX6_reading_130 (pc' := 133) rfl ?_
        refine g_iload_2 hC dX6_reading_133 (pc' := 134) rfl ?_
        refine g_iald hC (sh_counts ad isB_1 (by omega)) (Nat.le_of_ble_eq_true rfl) (by omega) ((hR.2.2 s (by omega)).2.1 f (by omega)) dX6_reading_134 (pc' := 135) rfl ?_
        refine g_iretR hC hRt rfl dX6_reading_135 ?_
        simp only [vReading, cl_nI, h4, cs, h11, cf, eq_false s45_0, eq_false s45_1, eq_false s45_2, ↓reduceIte, Bool.false_eq_true]
      by_cases s45_4 : (w) = nI 4
      · refine g_tabI hC 4 dX6_reading_45 s45_4 (by decide) (by decide) (by decide) (off := 91) rfl (tgt := 136) (by decide) ?_
        subst s45_4
        refine g_aload_4 hC dX6_reading_136 (pc' := 138) rfl ?_
        refine g_iload_2 hC dX6_reading_138 (pc' := 139) rfl ?_
        refine g_aload_0 hC dX6_reading_139 (pc' := 140) rfl ?_
        refine g_getR hC fl_X6_10 (sh_cs ad) rfl dX6_reading_140 (pc' := 143) rfl ?_
        refine g_getR hC fl_X6_63 (sh_st ad isB_1) rfl dX6_reading_143 (pc' := 146) rfl ?_
        refine g_iconst hC dX6_reading_146 (pc' := 147) kc_iconst_0 rfl ?_
        refine g_iald hC (sh_st2 ad isB_1) (Nat.le_of_ble_eq_true rfl) (by omega) (hR.1.1) dX6_reading_147 (pc' := 148) rfl ?_
        refine g_callV2R hC (c_sReads isB_1 (t := s) (by omega) (hR.2.2 s (by omega)) hI (f := f) (by omega)) ml_X6_166 (sh_sheet ad isB_1 (by omega)) rfl ⟨(Nat.le_of_ble_eq_true rfl), (Nat.le_of_ble_eq_true rfl)⟩ (Nat.le_of_ble_eq_true rfl) dX6_reading_148 (pc' := 151) rfl ⟨Nat.zero_le _, Nat.zero_le _⟩ ?_
        refine g_iretR hC hRt rfl dX6_reading_151 ?_
        simp only [vReading, cl_nI, h4, cs, h11, cf, eq_false s45_0, eq_false s45_1, eq_false s45_2, eq_false s45_3, ↓reduceIte, Bool.false_eq_true]
      refine g_tabO hC dX6_reading_45 (fun j hj => by
        have : j ≤ 4 := by omega
        match j, this with
        | 0, _ => exact s45_0
        | 1, _ => exact s45_1
        | 2, _ => exact s45_2
        | 3, _ => exact s45_3
        | 4, _ => exact s45_4
        | j + 5, h => exact absurd h (by omega)) (tgt := 152) (by decide) ?_
      refine g_bipush hC dX6_reading_152 (pc' := 154) kc_bipush_m2 rfl ?_
      refine g_iretR hC hRt rfl dX6_reading_154 ?_
      simp only [vReading, cl_nI, h4, cs, h11, cf, eq_false s45_0, eq_false s45_1, eq_false s45_2, eq_false s45_3, eq_false s45_4, ↓reduceIte, Bool.false_eq_true]
    · refine g_iconst hC dX6_reading_14 (pc' := 15) kc_iconst_m1 rfl ?_
      refine g_iretR hC hRt rfl dX6_reading_15 ?_
      simp only [vReading, cl_nI, h4, cs, h11, ↓reduceIte, Bool.false_eq_true]

set_option maxHeartbeats 4000000 in
set_option maxRecDepth 100000 in
theorem k_ofMark {l : Launch} {ad : Nat → Nat} {X : gX} {a c m w : Int32} {g : Nat → Nat} (hR : RS X 1 g) (hI : Inv g) : K_X6_ofMark l ad [.ref 0, .int (a), .int (c), .int (m), .int (w)] X (pR X (vOfMark g a c m w)) := by
  refine Ct.of [.ref 0, .int (a), .int (c), .int (m), .int (w), .null] 1 (by decide +kernel) rfl (Nat.le_of_ble_eq_true rfl) (fun F hl hC hRt _ => ?_)
  subst hl
  refine g_iload_1 hC dX6_ofMark_0 (pc' := 1) rfl ?_
  refine g_callS1R hC (c_iSheet) ml_X6_67 ⟨(Nat.le_of_ble_eq_true rfl), (Nat.le_of_ble_eq_true rfl)⟩ (Nat.le_of_ble_eq_true rfl) dX6_ofMark_1 (pc' := 4) rfl ⟨Nat.zero_le _, Nat.zero_le _⟩ ?_
  refine g_ifZ_eq hC dX6_ofMark_4 (pc' := 7) (tgt := 14) (by decide) rfl (fun h4 => ?_) (fun h4 => ?_)
  · refine g_iconst hC dX6_ofMark_14 (pc' := 15) kc_iconst_m1 rfl ?_
    refine g_iretR hC hRt rfl dX6_ofMark_15 ?_
    simp only [vOfMark, cl_nI, h4, ↓reduceIte, Bool.false_eq_true]
  · obtain ⟨s, rfl, -, hs⟩ := inB_N (by decide) h4 (by decide)
    have cs : cl (nI s) = s := cl_nI (by omega)
    refine g_iload_2 hC dX6_ofMark_7 (pc' := 8) rfl ?_
    refine g_callS1R hC (c_iField) ml_X6_105 ⟨(Nat.le_of_ble_eq_true rfl), (Nat.le_of_ble_eq_true rfl)⟩ (Nat.le_of_ble_eq_true rfl) dX6_ofMark_8 (pc' := 11) rfl ⟨Nat.zero_le _, Nat.zero_le _⟩ ?_
    refine g_ifZ_ne hC dX6_ofMark_11 (pc' := 14) (tgt := 16) (by decide) rfl (fun h11 => ?_) (fun h11 => ?_)
    · obtain ⟨f, rfl, -, hf⟩ := inB_N (by decide) h11 (by decide)
      have cf : cl (nI f) = f := cl_nI (by omega)
      have bc := hI.c (show s < 5 by omega) (show f < 10 by omega)
      refine g_aload_0 hC dX6_ofMark_16 (pc' := 17) rfl ?_
      refine g_getR hC fl_X6_10 (sh_cs ad) rfl dX6_ofMark_17 (pc' := 20) rfl ?_
      refine g_getR hC fl_X6_75 (sh_st ad isB_1) rfl dX6_ofMark_20 (pc' := 23) rfl ?_
      refine g_iload_1 hC dX6_ofMark_23 (pc' := 24) rfl ?_
      refine g_aald4 hC (sh_st1 ad isB_1) (Nat.le_of_ble_eq_true rfl) (by omega) (sheets_at (by omega)) dX6_ofMark_24 (pc' := 25) rfl ?_
      refine g_astore_5 hC dX6_ofMark_25 (pc' := 27) rfl (Nat.le_of_ble_eq_true rfl) rfl ?_
      refine g_iload_3 hC dX6_ofMark_27 (pc' := 28) rfl ?_
      refine g_if_lt hC dX6_ofMark_28 (pc' := 31) (tgt := 42) (by decide) rfl (fun h28 => ?_) (fun h28 => ?_)
      · have hm : inB m (nI 0) (lI (cnt g s f)) = false := inB_neg h28
        refine g_iconst hC dX6_ofMark_42 (pc' := 43) kc_iconst_m1 rfl ?_
        refine g_iretR hC hRt rfl dX6_ofMark_43 ?_
        simp only [vOfMark, cl_nI, h4, cs, h11, cf, hm, ↓reduceIte, Bool.false_eq_true]
      · obtain ⟨k, hk, rfl⟩ := nI_of h28
        have ck : k < 1073741824 → cl (nI k) = k := cl_nI
        refine g_iload_3 hC dX6_ofMark_31 (pc' := 32) rfl ?_
        refine g_aload_5 hC dX6_ofMark_32 (pc' := 34) rfl ?_
        refine g_getR hC fl_X6_131 (sh_sheet ad isB_1 (by omega)) rfl dX6_ofMark_34 (pc' := 37) rfl ?_
        refine g_iload_2 hC dX6_ofMark_37 (pc' := 38) rfl ?_
        refine g_iald hC (sh_counts ad isB_1 (by omega)) (Nat.le_of_ble_eq_true rfl) (by omega) ((hR.2.2 s (by omega)).2.1 f (by omega)) dX6_ofMark_38 (pc' := 39) rfl ?_
        refine g_icmpN_lt hC dX6_ofMark_39 (pc' := 42) (tgt := 44) (by decide) rfl (by omega) (by omega) (fun h39 => ?_) (fun h39 => ?_)
        · have hm : inB (nI k) (nI 0) (lI (cnt g s f)) = true := by rw [inB_k hk (by omega)]; exact decide_eq_true (by omega)
          have ck2 := ck (by omega)
          refine g_iload_4 hC dX6_ofMark_44 (pc' := 46) rfl ?_
          by_cases s46_0 : (w) = nI 0
          · refine g_tabI hC 0 dX6_ofMark_46 s46_0 (by decide) (by decide) (by decide) (off := 26) rfl (tgt := 72) (by decide) ?_
            subst s46_0
            refine g_aload_5 hC dX6_ofMark_72 (pc' := 74) rfl ?_
            refine g_iload_2 hC dX6_ofMark_74 (pc' := 75) rfl ?_
            refine g_iload_3 hC dX6_ofMark_75 (pc' := 76) rfl ?_
            refine g_callV2R hC (c_sValue isB_1 (t := s) (by omega) (hR.2.2 s (by omega)) hI (f := f) (by omega) (k := k) (by omega)) ml_X6_160 (sh_sheet ad isB_1 (by omega)) rfl ⟨(Nat.le_of_ble_eq_true rfl), (Nat.le_of_ble_eq_true rfl)⟩ (Nat.le_of_ble_eq_true rfl) dX6_ofMark_76 (pc' := 79) rfl ⟨Nat.zero_le _, Nat.zero_le _⟩ ?_
            refine g_iretR hC hRt rfl dX6_ofMark_79 ?_
            simp only [vOfMark, cl_nI, h4, cs, h11, cf, hm, ck2, ↓reduceIte, Bool.false_eq_true]
          by_cases s46_1 : (w) = nI 1
          · refine g_tabI hC 1 dX6_ofMark_46 s46_1 (by decide) (by decide) (by decide) (off := 34) rfl (tgt := 80) (by decide) ?_
            subst s46_1
            refine g_aload_5 hC dX6_ofMark_80 (pc' := 82) rfl ?_
            refine g_iload_2 hC dX6_ofMark_82 (pc' := 83) rfl ?_
            refine g_iload_3 hC dX6_ofMark_83 (pc' := 84) rfl ?_
            refine g_callV2R hC (c_sStrength isB_1 (t := s) (by omega) (hR.2.2 s (by omega)) hI (f := f) (by omega) (k := k) (by omega)) ml_X6_163 (sh_sheet ad isB_1 (by omega)) rfl ⟨(Nat.le_of_ble_eq_true rfl), (Nat.le_of_ble_eq_true rfl)⟩ (Nat.le_of_ble_eq_true rfl) dX6_ofMark_84 (pc' := 87) rfl ⟨Nat.zero_le _, Nat.zero_le _⟩ ?_
            refine g_iretR hC hRt rfl dX6_ofMark_87 ?_
            simp only [vOfMark, cl_nI, h4, cs, h11, cf, hm, ck2, eq_false s46_0, ↓reduceIte, Bool.false_eq_true]
          by_cases s46_2 : (w) = nI 2
          · refine g_tabI hC 2 dX6_ofMark_46 s46_2 (by decide) (by decide) (by decide) (off := 42) rfl (tgt := 88) (by decide) ?_
            subst s46_2
            refine g_aload_5 hC dX6_ofMark_88 (pc' := 90) rfl ?_
            refine g_iload_2 hC dX6_ofMark_90 (pc' := 91) rfl ?_
            refine g_iload_3 hC dX6_ofMark_91 (pc' := 92) rfl ?_
            refine g_callV2R hC (c_sStruck isB_1 (t := s) (by omega) (hR.2.2 s (by omega)) hI (f := f) (by omega) (k := k) (by omega)) ml_X6_169 (sh_sheet ad isB_1 (by omega)) rfl ⟨(Nat.le_of_ble_eq_true rfl), (Nat.le_of_ble_eq_true rfl)⟩ (Nat.le_of_ble_eq_true rfl) dX6_ofMark_92 (pc' := 95) rfl ⟨Nat.zero_le _, Nat.zero_le _⟩ ?_
            refine g_ifZ_eq hC dX6_ofMark_95 (pc' := 98) (tgt := 102) (by decide) rfl (fun h95 => ?_) (fun h95 => ?_)
            · have hz : mk g s f k % 2 = 0 := by simp only [decide_eq_false_iff_not] at h95; omega
              refine g_iconst hC dX6_ofMark_102 (pc' := 103) kc_iconst_0 rfl ?_
              refine g_iretR hC hRt rfl dX6_ofMark_103 ?_
              simp only [vOfMark, cl_nI, h4, cs, h11, cf, hm, ck2, eq_false s46_0, eq_false s46_1, h95, hz, ↓reduceIte, Bool.false_eq_true]
            · have hz : mk g s f k % 2 = 1 := of_decide_eq_true h95
              refine g_iconst hC dX6_ofMark_98 (pc' := 99) kc_iconst_1 rfl ?_
              refine g_goto hC dX6_ofMark_99 (tgt := 103) (by decide) ?_
              refine g_iretR hC hRt rfl dX6_ofMark_103 ?_
              simp only [vOfMark, cl_nI, h4, cs, h11, cf, hm, ck2, eq_false s46_0, eq_false s46_1, h95, hz, ↓reduceIte, Bool.false_eq_true]
          refine g_tabO hC dX6_ofMark_46 (fun j hj => by
            have : j ≤ 2 := by omega
            match j, this with
            | 0, _ => exact s46_0
            | 1, _ => exact s46_1
            | 2, _ => exact s46_2
            | j + 3, h => exact absurd h (by omega)) (tgt := 104) (by decide) ?_
          refine g_bipush hC dX6_ofMark_104 (pc' := 106) kc_bipush_m2 rfl ?_
          refine g_iretR hC hRt rfl dX6_ofMark_106 ?_
          simp only [vOfMark, cl_nI, h4, cs, h11, cf, hm, ck2, eq_false s46_0, eq_false s46_1, eq_false s46_2, ↓reduceIte, Bool.false_eq_true]
        · have hm : inB (nI k) (nI 0) (lI (cnt g s f)) = false := by rw [inB_k hk (by omega)]; exact decide_eq_false (by omega)
          refine g_iconst hC dX6_ofMark_42 (pc' := 43) kc_iconst_m1 rfl ?_
          refine g_iretR hC hRt rfl dX6_ofMark_43 ?_
          simp only [vOfMark, cl_nI, h4, cs, h11, cf, hm, ↓reduceIte, Bool.false_eq_true]
    · refine g_iconst hC dX6_ofMark_14 (pc' := 15) kc_iconst_m1 rfl ?_
      refine g_iretR hC hRt rfl dX6_ofMark_15 ?_
      simp only [vOfMark, cl_nI, h4, cs, h11, ↓reduceIte, Bool.false_eq_true]

set_option maxHeartbeats 4000000 in
set_option maxRecDepth 100000 in
theorem k_together {l : Launch} {ad : Nat → Nat} {X : gX} {a w : Int32} {g : Nat → Nat} (hR : RS X 1 g) (hI : Inv g) : K_X6_together l ad [.ref 0, .int (a), .int (w)] X (fun rr X' => rr = vTog g a w ∧ fA X X') := by
  refine Ct.of [.ref 0, .int (a), .int (w)] 0 (by decide +kernel) rfl (Nat.le_of_ble_eq_true rfl) (fun F hl hC hRt _ => ?_)
  subst hl
  refine g_iload_1 hC dX6_together_0 (pc' := 1) rfl ?_
  refine g_callS1R hC (c_iField) ml_X6_105 ⟨(Nat.le_of_ble_eq_true rfl), (Nat.le_of_ble_eq_true rfl)⟩ (Nat.le_of_ble_eq_true rfl) dX6_together_1 (pc' := 4) rfl ⟨Nat.zero_le _, Nat.zero_le _⟩ ?_
  refine g_ifZ_ne hC dX6_together_4 (pc' := 7) (tgt := 9) (by decide) rfl (fun h4 => ?_) (fun h4 => ?_)
  · obtain ⟨f, rfl, -, hf⟩ := inB_N (by decide) h4 (by decide)
    have cf : cl (nI f) = f := cl_nI (by omega)
    refine g_aload_0 hC dX6_together_9 (pc' := 10) rfl ?_
    refine g_getR hC fl_X6_22 (sh_cs ad) rfl dX6_together_10 (pc' := 13) rfl ?_
    refine g_aload_0 hC dX6_together_13 (pc' := 14) rfl ?_
    refine g_getR hC fl_X6_10 (sh_cs ad) rfl dX6_together_14 (pc' := 17) rfl ?_
    refine g_iload_1 hC dX6_together_17 (pc' := 18) rfl ?_
    refine g_callV2V hC (c_takeIn isB_1 hR hI (f := f) (by omega)) ml_X6_172 (sh_tally ad) rfl ⟨(Nat.le_of_ble_eq_true rfl), (Nat.le_of_ble_eq_true rfl)⟩ (Nat.le_of_ble_eq_true rfl) dX6_together_18 (pc' := 21) rfl ⟨Nat.zero_le _, Nat.zero_le _⟩ (fun X18 q18 => ?_)
    obtain ⟨e18, t0, t1, t2, t3, t4⟩ := q18
    refine g_iload_2 hC dX6_together_21 (pc' := 22) rfl ?_
    by_cases s22_0 : (w) = nI 0
    · refine g_tabI hC 0 dX6_together_22 s22_0 (by decide) (by decide) (by decide) (off := 34) rfl (tgt := 56) (by decide) ?_
      subst s22_0
      refine g_aload_0 hC dX6_together_56 (pc' := 57) rfl ?_
      refine g_getR hC fl_X6_22 (sh_cs ad) rfl dX6_together_57 (pc' := 60) rfl ?_
      refine g_getI hC fl_X6_176 (sh_tally ad) rfl (t1) dX6_together_60 (pc' := 63) rfl ?_
      refine g_iretI hC hRt rfl dX6_together_63 ?_
      refine ⟨?_, fA.t e18⟩
      simp only [vTog, cl_nI, h4, cf, ↓reduceIte, Bool.false_eq_true]
    by_cases s22_1 : (w) = nI 1
    · refine g_tabI hC 1 dX6_together_22 s22_1 (by decide) (by decide) (by decide) (off := 42) rfl (tgt := 64) (by decide) ?_
      subst s22_1
      refine g_aload_0 hC dX6_together_64 (pc' := 65) rfl ?_
      refine g_getR hC fl_X6_22 (sh_cs ad) rfl dX6_together_65 (pc' := 68) rfl ?_
      refine g_getI hC fl_X6_179 (sh_tally ad) rfl (t2) dX6_together_68 (pc' := 71) rfl ?_
      refine g_iretI hC hRt rfl dX6_together_71 ?_
      refine ⟨?_, fA.t e18⟩
      simp only [vTog, cl_nI, h4, cf, eq_false s22_0, ↓reduceIte, Bool.false_eq_true]
    by_cases s22_2 : (w) = nI 2
    · refine g_tabI hC 2 dX6_together_22 s22_2 (by decide) (by decide) (by decide) (off := 50) rfl (tgt := 72) (by decide) ?_
      subst s22_2
      refine g_aload_0 hC dX6_together_72 (pc' := 73) rfl ?_
      refine g_getR hC fl_X6_22 (sh_cs ad) rfl dX6_together_73 (pc' := 76) rfl ?_
      refine g_getI hC fl_X6_182 (sh_tally ad) rfl (t3) dX6_together_76 (pc' := 79) rfl ?_
      refine g_iretI hC hRt rfl dX6_together_79 ?_
      refine ⟨?_, fA.t e18⟩
      simp only [vTog, cl_nI, h4, cf, eq_false s22_0, eq_false s22_1, ↓reduceIte, Bool.false_eq_true]
    by_cases s22_3 : (w) = nI 3
    · refine g_tabI hC 3 dX6_together_22 s22_3 (by decide) (by decide) (by decide) (off := 58) rfl (tgt := 80) (by decide) ?_
      subst s22_3
      refine g_aload_0 hC dX6_together_80 (pc' := 81) rfl ?_
      refine g_getR hC fl_X6_22 (sh_cs ad) rfl dX6_together_81 (pc' := 84) rfl ?_
      refine g_getI hC fl_X6_185 (sh_tally ad) rfl (t4) dX6_together_84 (pc' := 87) rfl ?_
      refine g_iretI hC hRt rfl dX6_together_87 ?_
      refine ⟨?_, fA.t e18⟩
      simp only [vTog, cl_nI, h4, cf, eq_false s22_0, eq_false s22_1, eq_false s22_2, ↓reduceIte, Bool.false_eq_true]
    by_cases s22_4 : (w) = nI 4
    · refine g_tabI hC 4 dX6_together_22 s22_4 (by decide) (by decide) (by decide) (off := 66) rfl (tgt := 88) (by decide) ?_
      subst s22_4
      refine g_aload_0 hC dX6_together_88 (pc' := 89) rfl ?_
      refine g_getR hC fl_X6_22 (sh_cs ad) rfl dX6_together_89 (pc' := 92) rfl ?_
      refine g_getI hC fl_X6_188 (sh_tally ad) rfl (t0) dX6_together_92 (pc' := 95) rfl ?_
      refine g_iretI hC hRt rfl dX6_together_95 ?_
      refine ⟨?_, fA.t e18⟩
      simp only [vTog, cl_nI, h4, cf, eq_false s22_0, eq_false s22_1, eq_false s22_2, eq_false s22_3, ↓reduceIte, Bool.false_eq_true]
    refine g_tabO hC dX6_together_22 (fun j hj => by
      have : j ≤ 4 := by omega
      match j, this with
      | 0, _ => exact s22_0
      | 1, _ => exact s22_1
      | 2, _ => exact s22_2
      | 3, _ => exact s22_3
      | 4, _ => exact s22_4
      | j + 5, h => exact absurd h (by omega)) (tgt := 96) (by decide) ?_
    refine g_bipush hC dX6_together_96 (pc' := 98) kc_bipush_m2 rfl ?_
    refine g_iretI hC hRt rfl dX6_together_98 ?_
    refine ⟨?_, fA.t e18⟩
    simp only [vTog, cl_nI, h4, cf, eq_false s22_0, eq_false s22_1, eq_false s22_2, eq_false s22_3, eq_false s22_4, ↓reduceIte, Bool.false_eq_true]
  · refine g_iconst hC dX6_together_7 (pc' := 8) kc_iconst_m1 rfl ?_
    refine g_iretI hC hRt rfl dX6_together_8 ?_
    refine ⟨?_, fA.rf⟩
    simp only [vTog, cl_nI, h4, ↓reduceIte, Bool.false_eq_true]

set_option maxHeartbeats 4000000 in
set_option maxRecDepth 100000 in
theorem k_fWL1 {l : Launch} {ad : Nat → Nat} {X : gX} {g : Nat → Nat} (hR : RS X 1 g) (hI : Inv g) : K_X6_fieldsWithLeaders l ad [.ref 0, .int (nI 1), .int (nI 1)] X (fun rr X' => rr = nI (msk (oneB g true) 10) ∧ fA X X') := by
  refine Ct.of [.ref 0, .int (nI 1), .int (nI 1), .null, .null] 2 (by decide +kernel) rfl (Nat.le_of_ble_eq_true rfl) (fun F hl hC hRt _ => ?_)
  subst hl
  refine g_iconst hC dX6_fieldsWithLeaders_0 (pc' := 1) kc_iconst_0 rfl ?_
  refine g_istore_3 hC dX6_fieldsWithLeaders_1 (pc' := 2) rfl (Nat.le_of_ble_eq_true rfl) rfl ?_
  refine g_iconst hC dX6_fieldsWithLeaders_2 (pc' := 3) kc_iconst_0 rfl ?_
  refine g_istore_4 hC dX6_fieldsWithLeaders_3 (pc' := 5) rfl (Nat.le_of_ble_eq_true rfl) rfl ?_
  have L5 : ∀ f, f ≤ 10 → ∀ X1 : gX, fA X X1 → G F (S0 ad) (0, 0) X1 5 [.ref 0, .int (nI 1), .int (nI 1), .int (nI (msk (oneB g true) f)), .int (nI f)] [] := by
    refine up_ind _ (fun f hk5 ih5 => ?_)
    intro X1 hm5
    refine g_iload_4 hC dX6_fieldsWithLeaders_5 (pc' := 7) rfl ?_
    refine g_bipush hC dX6_fieldsWithLeaders_7 (pc' := 9) kc_bipush_10 rfl ?_
    refine g_icmpN_ge hC dX6_fieldsWithLeaders_9 (pc' := 12) (tgt := 53) (by decide) rfl (by omega) (by omega) (fun h9 => ?_) (fun h9 => ?_)
    · refine g_iload_3 hC dX6_fieldsWithLeaders_53 (pc' := 54) rfl ?_
      refine g_iretI hC hRt rfl dX6_fieldsWithLeaders_54 ?_
      rw [show f = 10 by omega]
      exact ⟨rfl, hm5⟩
    · refine g_aload_0 hC dX6_fieldsWithLeaders_12 (pc' := 13) rfl ?_
      refine g_getR hC fl_X6_22 (sh_cs ad) rfl dX6_fieldsWithLeaders_13 (pc' := 16) rfl ?_
      refine g_aload_0 hC dX6_fieldsWithLeaders_16 (pc' := 17) rfl ?_
      refine g_getR hC fl_X6_10 (sh_cs ad) rfl dX6_fieldsWithLeaders_17 (pc' := 20) rfl ?_
      refine g_iload_4 hC dX6_fieldsWithLeaders_20 (pc' := 22) rfl ?_
      refine g_callV2V hC (c_takeIn isB_1 (hm5.R hR) hI (f := f) (by omega)) ml_X6_172 (sh_tally ad) rfl ⟨(Nat.le_of_ble_eq_true rfl), (Nat.le_of_ble_eq_true rfl)⟩ (Nat.le_of_ble_eq_true rfl) dX6_fieldsWithLeaders_22 (pc' := 25) rfl ⟨Nat.zero_le _, Nat.zero_le _⟩ (fun X22 q22 => ?_)
      obtain ⟨e22, t0, t1, t2, t3, t4⟩ := q22
      have tb := (tly_b hI (show f < 10 by omega) 5 (Nat.le_refl _)).1
      refine g_aload_0 hC dX6_fieldsWithLeaders_25 (pc' := 26) rfl ?_
      refine g_getR hC fl_X6_22 (sh_cs ad) rfl dX6_fieldsWithLeaders_26 (pc' := 29) rfl ?_
      refine g_getI hC fl_X6_176 (sh_tally ad) rfl (t1) dX6_fieldsWithLeaders_29 (pc' := 32) rfl ?_
      refine g_iload_1 hC dX6_fieldsWithLeaders_32 (pc' := 33) rfl ?_
      refine g_iload_2 hC dX6_fieldsWithLeaders_33 (pc' := 34) rfl ?_
      refine g_callS3R hC (c_iW) ml_X6_71 ⟨(Nat.le_of_ble_eq_true rfl), (Nat.le_of_ble_eq_true rfl)⟩ (Nat.le_of_ble_eq_true rfl) dX6_fieldsWithLeaders_34 (pc' := 37) rfl ⟨Nat.zero_le _, Nat.zero_le _⟩ ?_
      refine g_ifZ_eq hC dX6_fieldsWithLeaders_37 (pc' := 40) (tgt := 47) (by decide) rfl (fun h37 => ?_) (fun h37 => ?_)
      · rw [inB_nI (by omega) (by decide) (by decide)] at h37
        have hP : oneB g true f = false := by unfold oneB; simp at h37 ⊢; omega
        refine g_iinc_4 hC dX6_fieldsWithLeaders_47 (pc' := 50) rfl (Nat.le_of_ble_eq_true rfl) rfl (nI_inc _ _ kc_iinc_1) ?_
        refine g_goto hC dX6_fieldsWithLeaders_50 (tgt := 5) (by decide) ?_
        exact g_weak (ih5 (by omega) _ (by exact hm5.tr (fA.t e22))) (gle_s (gle_s (gle_s (gle_i (by first | exact congrArg nI (msk_t hP) | exact congrArg nI (msk_f hP)) (gle_i (by first | rfl | omega) gle_nil)))))
      · rw [inB_nI (by omega) (by decide) (by decide)] at h37
        have hP : oneB g true f = true := by unfold oneB; simp at h37 ⊢; omega
        refine g_iload_3 hC dX6_fieldsWithLeaders_40 (pc' := 41) rfl ?_
        refine g_iconst hC dX6_fieldsWithLeaders_41 (pc' := 42) kc_iconst_1 rfl ?_
        refine g_iload_4 hC dX6_fieldsWithLeaders_42 (pc' := 44) rfl ?_
        refine g_ishl1 hC dX6_fieldsWithLeaders_44 (pc' := 45) rfl (by omega) ?_
        refine g_iorN hC dX6_fieldsWithLeaders_45 (pc' := 46) rfl ?_
        refine g_istore_3 hC dX6_fieldsWithLeaders_46 (pc' := 47) rfl (Nat.le_of_ble_eq_true rfl) rfl ?_
        refine g_iinc_4 hC dX6_fieldsWithLeaders_47 (pc' := 50) rfl (Nat.le_of_ble_eq_true rfl) rfl (nI_inc _ _ kc_iinc_1) ?_
        refine g_goto hC dX6_fieldsWithLeaders_50 (tgt := 5) (by decide) ?_
        exact g_weak (ih5 (by omega) _ (by exact hm5.tr (fA.t e22))) (gle_s (gle_s (gle_s (gle_i (by first | exact congrArg nI (msk_t hP) | exact congrArg nI (msk_f hP)) (gle_i (by first | rfl | omega) gle_nil)))))
  exact g_weak (L5 0 (by exact Nat.zero_le _) _ (by exact fA.rf)) (gle_s (gle_s (gle_s (gle_i (by rfl) (gle_s gle_nil)))))

set_option maxHeartbeats 4000000 in
set_option maxRecDepth 100000 in
theorem k_fWL2 {l : Launch} {ad : Nat → Nat} {X : gX} {g : Nat → Nat} (hR : RS X 1 g) (hI : Inv g) : K_X6_fieldsWithLeaders l ad [.ref 0, .int (nI 2), .int (nI 5)] X (fun rr X' => rr = nI (msk (oneB g false) 10) ∧ fA X X') := by
  refine Ct.of [.ref 0, .int (nI 2), .int (nI 5), .null, .null] 2 (by decide +kernel) rfl (Nat.le_of_ble_eq_true rfl) (fun F hl hC hRt _ => ?_)
  subst hl
  refine g_iconst hC dX6_fieldsWithLeaders_0 (pc' := 1) kc_iconst_0 rfl ?_
  refine g_istore_3 hC dX6_fieldsWithLeaders_1 (pc' := 2) rfl (Nat.le_of_ble_eq_true rfl) rfl ?_
  refine g_iconst hC dX6_fieldsWithLeaders_2 (pc' := 3) kc_iconst_0 rfl ?_
  refine g_istore_4 hC dX6_fieldsWithLeaders_3 (pc' := 5) rfl (Nat.le_of_ble_eq_true rfl) rfl ?_
  have L5 : ∀ f, f ≤ 10 → ∀ X1 : gX, fA X X1 → G F (S0 ad) (0, 0) X1 5 [.ref 0, .int (nI 2), .int (nI 5), .int (nI (msk (oneB g false) f)), .int (nI f)] [] := by
    refine up_ind _ (fun f hk5 ih5 => ?_)
    intro X1 hm5
    refine g_iload_4 hC dX6_fieldsWithLeaders_5 (pc' := 7) rfl ?_
    refine g_bipush hC dX6_fieldsWithLeaders_7 (pc' := 9) kc_bipush_10 rfl ?_
    refine g_icmpN_ge hC dX6_fieldsWithLeaders_9 (pc' := 12) (tgt := 53) (by decide) rfl (by omega) (by omega) (fun h9 => ?_) (fun h9 => ?_)
    · refine g_iload_3 hC dX6_fieldsWithLeaders_53 (pc' := 54) rfl ?_
      refine g_iretI hC hRt rfl dX6_fieldsWithLeaders_54 ?_
      rw [show f = 10 by omega]
      exact ⟨rfl, hm5⟩
    · refine g_aload_0 hC dX6_fieldsWithLeaders_12 (pc' := 13) rfl ?_
      refine g_getR hC fl_X6_22 (sh_cs ad) rfl dX6_fieldsWithLeaders_13 (pc' := 16) rfl ?_
      refine g_aload_0 hC dX6_fieldsWithLeaders_16 (pc' := 17) rfl ?_
      refine g_getR hC fl_X6_10 (sh_cs ad) rfl dX6_fieldsWithLeaders_17 (pc' := 20) rfl ?_
      refine g_iload_4 hC dX6_fieldsWithLeaders_20 (pc' := 22) rfl ?_
      refine g_callV2V hC (c_takeIn isB_1 (hm5.R hR) hI (f := f) (by omega)) ml_X6_172 (sh_tally ad) rfl ⟨(Nat.le_of_ble_eq_true rfl), (Nat.le_of_ble_eq_true rfl)⟩ (Nat.le_of_ble_eq_true rfl) dX6_fieldsWithLeaders_22 (pc' := 25) rfl ⟨Nat.zero_le _, Nat.zero_le _⟩ (fun X22 q22 => ?_)
      obtain ⟨e22, t0, t1, t2, t3, t4⟩ := q22
      have tb := (tly_b hI (show f < 10 by omega) 5 (Nat.le_refl _)).1
      refine g_aload_0 hC dX6_fieldsWithLeaders_25 (pc' := 26) rfl ?_
      refine g_getR hC fl_X6_22 (sh_cs ad) rfl dX6_fieldsWithLeaders_26 (pc' := 29) rfl ?_
      refine g_getI hC fl_X6_176 (sh_tally ad) rfl (t1) dX6_fieldsWithLeaders_29 (pc' := 32) rfl ?_
      refine g_iload_1 hC dX6_fieldsWithLeaders_32 (pc' := 33) rfl ?_
      refine g_iload_2 hC dX6_fieldsWithLeaders_33 (pc' := 34) rfl ?_
      refine g_callS3R hC (c_iW) ml_X6_71 ⟨(Nat.le_of_ble_eq_true rfl), (Nat.le_of_ble_eq_true rfl)⟩ (Nat.le_of_ble_eq_true rfl) dX6_fieldsWithLeaders_34 (pc' := 37) rfl ⟨Nat.zero_le _, Nat.zero_le _⟩ ?_
      refine g_ifZ_eq hC dX6_fieldsWithLeaders_37 (pc' := 40) (tgt := 47) (by decide) rfl (fun h37 => ?_) (fun h37 => ?_)
      · rw [inB_nI (by omega) (by decide) (by decide)] at h37
        have hP : oneB g false f = false := by unfold oneB; simp at h37 ⊢; omega
        refine g_iinc_4 hC dX6_fieldsWithLeaders_47 (pc' := 50) rfl (Nat.le_of_ble_eq_true rfl) rfl (nI_inc _ _ kc_iinc_1) ?_
        refine g_goto hC dX6_fieldsWithLeaders_50 (tgt := 5) (by decide) ?_
        exact g_weak (ih5 (by omega) _ (by exact hm5.tr (fA.t e22))) (gle_s (gle_s (gle_s (gle_i (by first | exact congrArg nI (msk_t hP) | exact congrArg nI (msk_f hP)) (gle_i (by first | rfl | omega) gle_nil)))))
      · rw [inB_nI (by omega) (by decide) (by decide)] at h37
        have hP : oneB g false f = true := by unfold oneB; simp at h37 ⊢; omega
        refine g_iload_3 hC dX6_fieldsWithLeaders_40 (pc' := 41) rfl ?_
        refine g_iconst hC dX6_fieldsWithLeaders_41 (pc' := 42) kc_iconst_1 rfl ?_
        refine g_iload_4 hC dX6_fieldsWithLeaders_42 (pc' := 44) rfl ?_
        refine g_ishl1 hC dX6_fieldsWithLeaders_44 (pc' := 45) rfl (by omega) ?_
        refine g_iorN hC dX6_fieldsWithLeaders_45 (pc' := 46) rfl ?_
        refine g_istore_3 hC dX6_fieldsWithLeaders_46 (pc' := 47) rfl (Nat.le_of_ble_eq_true rfl) rfl ?_
        refine g_iinc_4 hC dX6_fieldsWithLeaders_47 (pc' := 50) rfl (Nat.le_of_ble_eq_true rfl) rfl (nI_inc _ _ kc_iinc_1) ?_
        refine g_goto hC dX6_fieldsWithLeaders_50 (tgt := 5) (by decide) ?_
        exact g_weak (ih5 (by omega) _ (by exact hm5.tr (fA.t e22))) (gle_s (gle_s (gle_s (gle_i (by first | exact congrArg nI (msk_t hP) | exact congrArg nI (msk_f hP)) (gle_i (by first | rfl | omega) gle_nil)))))
  exact g_weak (L5 0 (by exact Nat.zero_le _) _ (by exact fA.rf)) (gle_s (gle_s (gle_s (gle_i (by rfl) (gle_s gle_nil)))))

set_option maxHeartbeats 4000000 in
set_option maxRecDepth 100000 in
theorem k_count {l : Launch} {ad : Nat → Nat} {X : gX} {w : Int32} {n len : Nat} {g : Nat → Nat} (hR : RS X 1 g) (hI : Inv g) (hn : X 42 0 = nI n) (hl : X 160 0 = nI len) : K_X6_count l ad [.ref 0, .int (w)] X (fun rr X' => rr = vCount g n len w ∧ fA X X') := by
  refine Ct.of [.ref 0, .int (w)] 0 (by decide +kernel) rfl (Nat.le_of_ble_eq_true rfl) (fun F hl hC hRt _ => ?_)
  subst hl
  refine g_iload_1 hC dX6_count_0 (pc' := 1) rfl ?_
  by_cases s1_0 : (w) = nI 0
  · refine g_tabI hC 0 dX6_count_1 s1_0 (by decide) (by decide) (by decide) (off := 55) rfl (tgt := 56) (by decide) ?_
    subst s1_0
    refine g_aload_0 hC dX6_count_56 (pc' := 57) rfl ?_
    refine g_getR hC fl_X6_10 (sh_cs ad) rfl dX6_count_57 (pc' := 60) rfl ?_
    refine g_callV0R hC (c_tEmpty isB_1 hR hI) ml_X6_191 (sh_st ad isB_1) rfl ⟨(Nat.le_of_ble_eq_true rfl), (Nat.le_of_ble_eq_true rfl)⟩ (Nat.le_of_ble_eq_true rfl) dX6_count_60 (pc' := 63) rfl ⟨Nat.zero_le _, Nat.zero_le _⟩ ?_
    refine g_ifZ_eq hC dX6_count_63 (pc' := 66) (tgt := 71) (by decide) rfl (fun h63 => ?_) (fun h63 => ?_)
    · have h63b : g 2 < g 3 := Decidable.not_not.mp (of_decide_eq_false h63)
      refine g_aload_0 hC dX6_count_71 (pc' := 72) rfl ?_
      refine g_getR hC fl_X6_10 (sh_cs ad) rfl dX6_count_72 (pc' := 75) rfl ?_
      refine g_getI hC fl_X6_108 (sh_st ad isB_1) rfl (hR.2.1.1) dX6_count_75 (pc' := 78) rfl ?_
      refine g_iretI hC hRt rfl dX6_count_78 ?_
      refine ⟨?_, fA.rf⟩
      simp only [vCount, cl_nI, h63, eq_true h63b, ↓reduceIte, Bool.false_eq_true]
    · have h63b : ¬ g 2 < g 3 := of_decide_eq_true h63
      refine g_bipush hC dX6_count_66 (pc' := 68) kc_bipush_m6 rfl ?_
      refine g_goto hC dX6_count_68 (tgt := 78) (by decide) ?_
      refine g_iretI hC hRt rfl dX6_count_78 ?_
      refine ⟨?_, fA.rf⟩
      simp only [vCount, cl_nI, h63, eq_false h63b, ↓reduceIte, Bool.false_eq_true]
  by_cases s1_1 : (w) = nI 1
  · refine g_tabI hC 1 dX6_count_1 s1_1 (by decide) (by decide) (by decide) (off := 78) rfl (tgt := 79) (by decide) ?_
    subst s1_1
    refine g_aload_0 hC dX6_count_79 (pc' := 80) rfl ?_
    refine g_getR hC fl_X6_10 (sh_cs ad) rfl dX6_count_80 (pc' := 83) rfl ?_
    refine g_callV0R hC (c_tEmpty isB_1 hR hI) ml_X6_191 (sh_st ad isB_1) rfl ⟨(Nat.le_of_ble_eq_true rfl), (Nat.le_of_ble_eq_true rfl)⟩ (Nat.le_of_ble_eq_true rfl) dX6_count_83 (pc' := 86) rfl ⟨Nat.zero_le _, Nat.zero_le _⟩ ?_
    refine g_ifZ_eq hC dX6_count_86 (pc' := 89) (tgt := 94) (by decide) rfl (fun h86 => ?_) (fun h86 => ?_)
    · have h86b : g 2 < g 3 := Decidable.not_not.mp (of_decide_eq_false h86)
      refine g_aload_0 hC dX6_count_94 (pc' := 95) rfl ?_
      refine g_getR hC fl_X6_10 (sh_cs ad) rfl dX6_count_95 (pc' := 98) rfl ?_
      refine g_getI hC fl_X6_195 (sh_st ad isB_1) rfl (hR.2.1.2) dX6_count_98 (pc' := 101) rfl ?_
      refine g_iretI hC hRt rfl dX6_count_101 ?_
      refine ⟨?_, fA.rf⟩
      simp only [vCount, cl_nI, eq_false s1_0, h86, eq_true h86b, ↓reduceIte, Bool.false_eq_true]
    · have h86b : ¬ g 2 < g 3 := of_decide_eq_true h86
      refine g_bipush hC dX6_count_89 (pc' := 91) kc_bipush_m6 rfl ?_
      refine g_goto hC dX6_count_91 (tgt := 101) (by decide) ?_
      refine g_iretI hC hRt rfl dX6_count_101 ?_
      refine ⟨?_, fA.rf⟩
      simp only [vCount, cl_nI, eq_false s1_0, h86, eq_false h86b, ↓reduceIte, Bool.false_eq_true]
  by_cases s1_2 : (w) = nI 2
  · refine g_tabI hC 2 dX6_count_1 s1_2 (by decide) (by decide) (by decide) (off := 101) rfl (tgt := 102) (by decide) ?_
    subst s1_2
    refine g_aload_0 hC dX6_count_102 (pc' := 103) rfl ?_
    refine g_getR hC fl_X6_10 (sh_cs ad) rfl dX6_count_103 (pc' := 106) rfl ?_
    refine g_callV0R hC (c_tStack isB_1 hR hI) ml_X6_198 (sh_st ad isB_1) rfl ⟨(Nat.le_of_ble_eq_true rfl), (Nat.le_of_ble_eq_true rfl)⟩ (Nat.le_of_ble_eq_true rfl) dX6_count_106 (pc' := 109) rfl ⟨Nat.zero_le _, Nat.zero_le _⟩ ?_
    refine g_iretI hC hRt rfl dX6_count_109 ?_
    refine ⟨?_, fA.rf⟩
    simp only [vCount, cl_nI, eq_false s1_0, eq_false s1_1, ↓reduceIte, Bool.false_eq_true]
  by_cases s1_3 : (w) = nI 3
  · refine g_tabI hC 3 dX6_count_1 s1_3 (by decide) (by decide) (by decide) (off := 109) rfl (tgt := 110) (by decide) ?_
    subst s1_3
    refine g_aload_0 hC dX6_count_110 (pc' := 111) rfl ?_
    refine g_getR hC fl_X6_10 (sh_cs ad) rfl dX6_count_111 (pc' := 114) rfl ?_
    refine g_callV0R hC (c_tAll isB_1 hR hI) ml_X6_201 (sh_st ad isB_1) rfl ⟨(Nat.le_of_ble_eq_true rfl), (Nat.le_of_ble_eq_true rfl)⟩ (Nat.le_of_ble_eq_true rfl) dX6_count_114 (pc' := 117) rfl ⟨Nat.zero_le _, Nat.zero_le _⟩ ?_
    refine g_iretI hC hRt rfl dX6_count_117 ?_
    refine ⟨?_, fA.rf⟩
    simp only [vCount, cl_nI, eq_false s1_0, eq_false s1_1, eq_false s1_2, ↓reduceIte, Bool.false_eq_true]
  by_cases s1_4 : (w) = nI 4
  · refine g_tabI hC 4 dX6_count_1 s1_4 (by decide) (by decide) (by decide) (off := 117) rfl (tgt := 118) (by decide) ?_
    subst s1_4
    refine g_aload_0 hC dX6_count_118 (pc' := 119) rfl ?_
    refine g_iconst hC dX6_count_119 (pc' := 120) kc_iconst_1 rfl ?_
    refine g_iconst hC dX6_count_120 (pc' := 121) kc_iconst_1 rfl ?_
    refine g_callV2I hC (k_fWL1 hR hI) ml_X6_202 (sh_cs ad) rfl ⟨(Nat.le_of_ble_eq_true rfl), (Nat.le_of_ble_eq_true rfl)⟩ (Nat.le_of_ble_eq_true rfl) dX6_count_121 (pc' := 124) rfl ⟨Nat.zero_le _, Nat.zero_le _⟩ (fun v121 X121 q121 => ?_)
    obtain ⟨rfl, f121⟩ := q121
    refine g_iretI hC hRt rfl dX6_count_124 ?_
    refine ⟨?_, f121⟩
    simp only [vCount, cl_nI, eq_false s1_0, eq_false s1_1, eq_false s1_2, eq_false s1_3, ↓reduceIte, Bool.false_eq_true]
  by_cases s1_5 : (w) = nI 5
  · refine g_tabI hC 5 dX6_count_1 s1_5 (by decide) (by decide) (by decide) (off := 124) rfl (tgt := 125) (by decide) ?_
    subst s1_5
    refine g_aload_0 hC dX6_count_125 (pc' := 126) rfl ?_
    refine g_iconst hC dX6_count_126 (pc' := 127) kc_iconst_2 rfl ?_
    refine g_iconst hC dX6_count_127 (pc' := 128) kc_iconst_5 rfl ?_
    refine g_callV2I hC (k_fWL2 hR hI) ml_X6_202 (sh_cs ad) rfl ⟨(Nat.le_of_ble_eq_true rfl), (Nat.le_of_ble_eq_true rfl)⟩ (Nat.le_of_ble_eq_true rfl) dX6_count_128 (pc' := 131) rfl ⟨Nat.zero_le _, Nat.zero_le _⟩ (fun v128 X128 q128 => ?_)
    obtain ⟨rfl, f128⟩ := q128
    refine g_iretI hC hRt rfl dX6_count_131 ?_
    refine ⟨?_, f128⟩
    simp only [vCount, cl_nI, eq_false s1_0, eq_false s1_1, eq_false s1_2, eq_false s1_3, eq_false s1_4, ↓reduceIte, Bool.false_eq_true]
  by_cases s1_6 : (w) = nI 6
  · refine g_tabI hC 6 dX6_count_1 s1_6 (by decide) (by decide) (by decide) (off := 131) rfl (tgt := 132) (by decide) ?_
    subst s1_6
    refine g_aload_0 hC dX6_count_132 (pc' := 133) rfl ?_
    refine g_getR hC fl_X6_44 (sh_cs ad) rfl dX6_count_133 (pc' := 136) rfl ?_
    refine g_getI hC fl_X6_205 (sh_cpad ad) rfl (hl) dX6_count_136 (pc' := 139) rfl ?_
    refine g_iretI hC hRt rfl dX6_count_139 ?_
    refine ⟨?_, fA.rf⟩
    simp only [vCount, cl_nI, eq_false s1_0, eq_false s1_1, eq_false s1_2, eq_false s1_3, eq_false s1_4, eq_false s1_5, ↓reduceIte, Bool.false_eq_true]
  by_cases s1_7 : (w) = nI 7
  · refine g_tabI hC 7 dX6_count_1 s1_7 (by decide) (by decide) (by decide) (off := 139) rfl (tgt := 140) (by decide) ?_
    subst s1_7
    refine g_aload_0 hC dX6_count_140 (pc' := 141) rfl ?_
    refine g_getR hC fl_X6_29 (sh_cs ad) rfl dX6_count_141 (pc' := 144) rfl ?_
    refine g_getI hC fl_X6_208 (sh_hist ad) rfl (hn) dX6_count_144 (pc' := 147) rfl ?_
    refine g_iretI hC hRt rfl dX6_count_147 ?_
    refine ⟨?_, fA.rf⟩
    simp only [vCount, cl_nI, eq_false s1_0, eq_false s1_1, eq_false s1_2, eq_false s1_3, eq_false s1_4, eq_false s1_5, eq_false s1_6, ↓reduceIte, Bool.false_eq_true]
  by_cases s1_8 : (w) = nI 8
  · refine g_tabI hC 8 dX6_count_1 s1_8 (by decide) (by decide) (by decide) (off := 147) rfl (tgt := 148) (by decide) ?_
    subst s1_8
    refine g_aload_0 hC dX6_count_148 (pc' := 149) rfl ?_
    refine g_getR hC fl_X6_10 (sh_cs ad) rfl dX6_count_149 (pc' := 152) rfl ?_
    refine g_getR hC fl_X6_63 (sh_st ad isB_1) rfl dX6_count_152 (pc' := 155) rfl ?_
    refine g_iconst hC dX6_count_155 (pc' := 156) kc_iconst_0 rfl ?_
    refine g_iald hC (sh_st2 ad isB_1) (Nat.le_of_ble_eq_true rfl) (by omega) (hR.1.1) dX6_count_156 (pc' := 157) rfl ?_
    refine g_iretI hC hRt rfl dX6_count_157 ?_
    refine ⟨?_, fA.rf⟩
    simp only [vCount, cl_nI, eq_false s1_0, eq_false s1_1, eq_false s1_2, eq_false s1_3, eq_false s1_4, eq_false s1_5, eq_false s1_6, eq_false s1_7, ↓reduceIte, Bool.false_eq_true]
  by_cases s1_9 : (w) = nI 9
  · refine g_tabI hC 9 dX6_count_1 s1_9 (by decide) (by decide) (by decide) (off := 157) rfl (tgt := 158) (by decide) ?_
    subst s1_9
    refine g_aload_0 hC dX6_count_158 (pc' := 159) rfl ?_
    refine g_getR hC fl_X6_10 (sh_cs ad) rfl dX6_count_159 (pc' := 162) rfl ?_
    refine g_getR hC fl_X6_63 (sh_st ad isB_1) rfl dX6_count_162 (pc' := 165) rfl ?_
    refine g_iconst hC dX6_count_165 (pc' := 166) kc_iconst_1 rfl ?_
    refine g_iald hC (sh_st2 ad isB_1) (Nat.le_of_ble_eq_true rfl) (by omega) (hR.1.2) dX6_count_166 (pc' := 167) rfl ?_
    refine g_iretI hC hRt rfl dX6_count_167 ?_
    refine ⟨?_, fA.rf⟩
    simp only [vCount, cl_nI, eq_false s1_0, eq_false s1_1, eq_false s1_2, eq_false s1_3, eq_false s1_4, eq_false s1_5, eq_false s1_6, eq_false s1_7, eq_false s1_8, ↓reduceIte, Bool.false_eq_true]
  refine g_tabO hC dX6_count_1 (fun j hj => by
    have : j ≤ 9 := by omega
    match j, this with
    | 0, _ => exact s1_0
    | 1, _ => exact s1_1
    | 2, _ => exact s1_2
    | 3, _ => exact s1_3
    | 4, _ => exact s1_4
    | 5, _ => exact s1_5
    | 6, _ => exact s1_6
    | 7, _ => exact s1_7
    | 8, _ => exact s1_8
    | 9, _ => exact s1_9
    | j + 10, h => exact absurd h (by omega)) (tgt := 168) (by decide) ?_
  refine g_bipush hC dX6_count_168 (pc' := 170) kc_bipush_m2 rfl ?_
  refine g_iretI hC hRt rfl dX6_count_170 ?_
  refine ⟨?_, fA.rf⟩
  simp only [vCount, cl_nI, eq_false s1_0, eq_false s1_1, eq_false s1_2, eq_false s1_3, eq_false s1_4, eq_false s1_5, eq_false s1_6, eq_false s1_7, eq_false s1_8, eq_false s1_9, ↓reduceIte, Bool.false_eq_true]

set_option maxHeartbeats 4000000 in
set_option maxRecDepth 100000 in
theorem k_differ {l : Launch} {ad : Nat → Nat} {X : gX} {a c : Int32} {g : Nat → Nat} (hR : RS X 1 g) (hI : Inv g) : K_X6_differ l ad [.ref 0, .int (a), .int (c)] X (pR X (vDiff g a c)) := by
  refine Ct.of [.ref 0, .int (a), .int (c), .null, .null] 2 (by decide +kernel) rfl (Nat.le_of_ble_eq_true rfl) (fun F hl hC hRt _ => ?_)
  subst hl
  refine g_iload_1 hC dX6_differ_0 (pc' := 1) rfl ?_
  refine g_callS1R hC (c_iSheet) ml_X6_67 ⟨(Nat.le_of_ble_eq_true rfl), (Nat.le_of_ble_eq_true rfl)⟩ (Nat.le_of_ble_eq_true rfl) dX6_differ_1 (pc' := 4) rfl ⟨Nat.zero_le _, Nat.zero_le _⟩ ?_
  refine g_ifZ_eq hC dX6_differ_4 (pc' := 7) (tgt := 14) (by decide) rfl (fun h4 => ?_) (fun h4 => ?_)
  · refine g_iconst hC dX6_differ_14 (pc' := 15) kc_iconst_m1 rfl ?_
    refine g_iretR hC hRt rfl dX6_differ_15 ?_
    simp only [vDiff, cl_nI, h4, ↓reduceIte, Bool.false_eq_true]
  · obtain ⟨s, rfl, -, hs⟩ := inB_N (by decide) h4 (by decide)
    have cs : cl (nI s) = s := cl_nI (by omega)
    refine g_iload_2 hC dX6_differ_7 (pc' := 8) rfl ?_
    refine g_callS1R hC (c_iSheet) ml_X6_67 ⟨(Nat.le_of_ble_eq_true rfl), (Nat.le_of_ble_eq_true rfl)⟩ (Nat.le_of_ble_eq_true rfl) dX6_differ_8 (pc' := 11) rfl ⟨Nat.zero_le _, Nat.zero_le _⟩ ?_
    refine g_ifZ_ne hC dX6_differ_11 (pc' := 14) (tgt := 16) (by decide) rfl (fun h11 => ?_) (fun h11 => ?_)
    · obtain ⟨t, rfl, -, ht⟩ := inB_N (by decide) h11 (by decide)
      have ct : cl (nI t) = t := cl_nI (by omega)
      refine g_iconst hC dX6_differ_16 (pc' := 17) kc_iconst_0 rfl ?_
      refine g_istore_3 hC dX6_differ_17 (pc' := 18) rfl (Nat.le_of_ble_eq_true rfl) rfl ?_
      refine g_iconst hC dX6_differ_18 (pc' := 19) kc_iconst_0 rfl ?_
      refine g_istore_4 hC dX6_differ_19 (pc' := 21) rfl (Nat.le_of_ble_eq_true rfl) rfl ?_
      have L21 : ∀ f, f ≤ 10 → G F (S0 ad) (0, 0) X 21 [.ref 0, .int (nI s), .int (nI t), .int (nI (msk (difB g s t) f)), .int (nI f)] [] := by
        refine up_ind _ (fun f hk21 ih21 => ?_)
        refine g_iload_4 hC dX6_differ_21 (pc' := 23) rfl ?_
        refine g_bipush hC dX6_differ_23 (pc' := 25) kc_bipush_10 rfl ?_
        refine g_icmpN_ge hC dX6_differ_25 (pc' := 28) (tgt := 55) (by decide) rfl (by omega) (by omega) (fun h25 => ?_) (fun h25 => ?_)
        · refine g_iload_3 hC dX6_differ_55 (pc' := 56) rfl ?_
          refine g_iretR hC hRt rfl dX6_differ_56 ?_
          rw [show f = 10 by omega]
          simp only [vDiff, cl_nI, h4, cs, h11, ct, ↓reduceIte, Bool.false_eq_true]
        · refine g_aload_0 hC dX6_differ_28 (pc' := 29) rfl ?_
          refine g_getR hC fl_X6_10 (sh_cs ad) rfl dX6_differ_29 (pc' := 32) rfl ?_
          refine g_iload_1 hC dX6_differ_32 (pc' := 33) rfl ?_
          refine g_iload_2 hC dX6_differ_33 (pc' := 34) rfl ?_
          refine g_iload_4 hC dX6_differ_34 (pc' := 36) rfl ?_
          refine g_callV3R hC (c_tSame isB_1 hR hI (s := s) (u := t) (f := f) (by omega) (by omega) (by omega)) ml_X6_211 (sh_st ad isB_1) rfl ⟨(Nat.le_of_ble_eq_true rfl), (Nat.le_of_ble_eq_true rfl)⟩ (Nat.le_of_ble_eq_true rfl) dX6_differ_36 (pc' := 39) rfl ⟨Nat.zero_le _, Nat.zero_le _⟩ ?_
          refine g_ifZ_ne hC dX6_differ_39 (pc' := 42) (tgt := 49) (by decide) rfl (fun h39 => ?_) (fun h39 => ?_)
          · have hP : difB g s t f = false := by simpa using h39
            refine g_iinc_4 hC dX6_differ_49 (pc' := 52) rfl (Nat.le_of_ble_eq_true rfl) rfl (nI_inc _ _ kc_iinc_1) ?_
            refine g_goto hC dX6_differ_52 (tgt := 21) (by decide) ?_
            exact g_weak (ih21 (by omega)) (gle_s (gle_s (gle_s (gle_i (by first | exact congrArg nI (msk_t hP) | exact congrArg nI (msk_f hP)) (gle_i (by first | rfl | omega) gle_nil)))))
          · have hP : difB g s t f = true := by simpa using h39
            refine g_iload_3 hC dX6_differ_42 (pc' := 43) rfl ?_
            refine g_iconst hC dX6_differ_43 (pc' := 44) kc_iconst_1 rfl ?_
            refine g_iload_4 hC dX6_differ_44 (pc' := 46) rfl ?_
            refine g_ishl1 hC dX6_differ_46 (pc' := 47) rfl (by omega) ?_
            refine g_iorN hC dX6_differ_47 (pc' := 48) rfl ?_
            refine g_istore_3 hC dX6_differ_48 (pc' := 49) rfl (Nat.le_of_ble_eq_true rfl) rfl ?_
            refine g_iinc_4 hC dX6_differ_49 (pc' := 52) rfl (Nat.le_of_ble_eq_true rfl) rfl (nI_inc _ _ kc_iinc_1) ?_
            refine g_goto hC dX6_differ_52 (tgt := 21) (by decide) ?_
            exact g_weak (ih21 (by omega)) (gle_s (gle_s (gle_s (gle_i (by first | exact congrArg nI (msk_t hP) | exact congrArg nI (msk_f hP)) (gle_i (by first | rfl | omega) gle_nil)))))
      exact g_weak (L21 0 (by exact Nat.zero_le _)) (gle_s (gle_s (gle_s (gle_i (by rfl) (gle_s gle_nil)))))
    · refine g_iconst hC dX6_differ_14 (pc' := 15) kc_iconst_m1 rfl ?_
      refine g_iretR hC hRt rfl dX6_differ_15 ?_
      simp only [vDiff, cl_nI, h4, cs, h11, ↓reduceIte, Bool.false_eq_true]

set_option maxHeartbeats 4000000 in
set_option maxRecDepth 100000 in
theorem k_enoughFor {l : Launch} {ad : Nat → Nat} {X : gX} {a : Int32} {g : Nat → Nat} (hR : RS X 1 g) (hI : Inv g) : K_X6_enoughFor l ad [.ref 0, .int (a)] X (fun rr X' => rr = vEnough g a ∧ fA X X') := by
  refine Ct.of [.ref 0, .int (a), .null] 1 (by decide +kernel) rfl (Nat.le_of_ble_eq_true rfl) (fun F hl hC hRt _ => ?_)
  subst hl
  have b0 := hI.1.1
  refine g_iload_1 hC dX6_enoughFor_0 (pc' := 1) rfl ?_
  refine g_callS1R hC (c_iSheet) ml_X6_67 ⟨(Nat.le_of_ble_eq_true rfl), (Nat.le_of_ble_eq_true rfl)⟩ (Nat.le_of_ble_eq_true rfl) dX6_enoughFor_1 (pc' := 4) rfl ⟨Nat.zero_le _, Nat.zero_le _⟩ ?_
  refine g_ifZ_ne hC dX6_enoughFor_4 (pc' := 7) (tgt := 9) (by decide) rfl (fun h4 => ?_) (fun h4 => ?_)
  · obtain ⟨s, rfl, -, hs⟩ := inB_N (by decide) h4 (by decide)
    have cs : cl (nI s) = s := cl_nI (by omega)
    refine g_iconst hC dX6_enoughFor_9 (pc' := 10) kc_iconst_1 rfl ?_
    refine g_istore_2 hC dX6_enoughFor_10 (pc' := 11) rfl (Nat.le_of_ble_eq_true rfl) rfl ?_
    have L11 : ∀ p, p ≤ 10 → 1 ≤ p → lfr (enB g s) 1 = lfr (enB g s) p → ∀ X1 : gX, fA X X1 → G F (S0 ad) (0, 0) X1 11 [.ref 0, .int (nI s), .int (nI p)] [] := by
      refine up_ind _ (fun p hk11 ih11 => ?_)
      intro hp1 hlf
      intro X1 hm11
      refine g_iload_2 hC dX6_enoughFor_11 (pc' := 12) rfl ?_
      refine g_bipush hC dX6_enoughFor_12 (pc' := 14) kc_bipush_9 rfl ?_
      refine g_icmpN_gt hC dX6_enoughFor_14 (pc' := 17) (tgt := 54) (by decide) rfl (by omega) (by omega) (fun h14 => ?_) (fun h14 => ?_)
      · refine g_bipush hC dX6_enoughFor_54 (pc' := 56) kc_bipush_m6 rfl ?_
        refine g_iretI hC hRt rfl dX6_enoughFor_56 ?_
        refine ⟨?_, hm11⟩
        rw [show p = 10 by omega, lfr_10] at hlf
        simp only [vEnough, cl_nI, h4, cs, ↓reduceIte, hlf, zn]
      · refine g_aload_0 hC dX6_enoughFor_17 (pc' := 18) rfl ?_
        refine g_getR hC fl_X6_10 (sh_cs ad) rfl dX6_enoughFor_18 (pc' := 21) rfl ?_
        refine g_iload_2 hC dX6_enoughFor_21 (pc' := 22) rfl ?_
        refine g_callV1V hC (c_tMeasure isB_1 (hm11.R hR) hI (p := p) (by omega)) ml_X6_214 (sh_st ad isB_1) rfl ⟨(Nat.le_of_ble_eq_true rfl), (Nat.le_of_ble_eq_true rfl)⟩ (Nat.le_of_ble_eq_true rfl) dX6_enoughFor_22 (pc' := 25) rfl ⟨Nat.zero_le _, Nat.zero_le _⟩ (fun X22 q22 => ?_)
        obtain ⟨hA, hX⟩ := q22
        have f22 := hm11.tr (fA.a hX)
        have ha := arv_le g p s
        refine g_aload_0 hC dX6_enoughFor_25 (pc' := 26) rfl ?_
        refine g_getR hC fl_X6_10 (sh_cs ad) rfl dX6_enoughFor_26 (pc' := 29) rfl ?_
        refine g_getR hC fl_X6_218 (sh_st ad isB_1) rfl dX6_enoughFor_29 (pc' := 32) rfl ?_
        refine g_iload_1 hC dX6_enoughFor_32 (pc' := 33) rfl ?_
        refine g_iald hC (sh_st3 ad isB_1) (Nat.le_of_ble_eq_true rfl) (by omega) (hA s (by omega)) dX6_enoughFor_33 (pc' := 34) rfl ?_
        refine g_aload_0 hC dX6_enoughFor_34 (pc' := 35) rfl ?_
        refine g_getR hC fl_X6_10 (sh_cs ad) rfl dX6_enoughFor_35 (pc' := 38) rfl ?_
        refine g_getR hC fl_X6_63 (sh_st ad isB_1) rfl dX6_enoughFor_38 (pc' := 41) rfl ?_
        refine g_iconst hC dX6_enoughFor_41 (pc' := 42) kc_iconst_0 rfl ?_
        refine g_iald hC (sh_st2 ad isB_1) (Nat.le_of_ble_eq_true rfl) (by omega) ((f22.R hR).1.1) dX6_enoughFor_42 (pc' := 43) rfl ?_
        refine g_icmpN_lt hC dX6_enoughFor_43 (pc' := 46) (tgt := 48) (by decide) rfl (by omega) (by omega) (fun h43 => ?_) (fun h43 => ?_)
        · have hP : enB g s p = false := decide_eq_false (by omega)
          refine g_iinc_2 hC dX6_enoughFor_48 (pc' := 51) rfl (Nat.le_of_ble_eq_true rfl) rfl (nI_inc _ _ kc_iinc_1) ?_
          refine g_goto hC dX6_enoughFor_51 (tgt := 11) (by decide) ?_
          exact g_weak (ih11 (by omega) (by omega) (hlf.trans (lfr_f (by omega) hP)) _ (by exact f22)) (gle_s (gle_s (gle_i (by first | rfl | omega) gle_nil)))
        · have hP : enB g s p = true := decide_eq_true (by omega)
          refine g_iload_2 hC dX6_enoughFor_46 (pc' := 47) rfl ?_
          refine g_iretI hC hRt rfl dX6_enoughFor_47 ?_
          refine ⟨?_, f22⟩
          rw [lfr_t (by omega) hP] at hlf
          simp only [vEnough, cl_nI, h4, cs, ↓reduceIte, hlf, zn]
          rw [if_neg (by omega)]
    exact g_weak (L11 1 (by decide) (by decide) rfl _ (by exact fA.rf)) (gle_s (gle_s (gle_s gle_nil)))
  · refine g_iconst hC dX6_enoughFor_7 (pc' := 8) kc_iconst_m1 rfl ?_
    refine g_iretI hC hRt rfl dX6_enoughFor_8 ?_
    refine ⟨?_, fA.rf⟩
    simp only [vEnough, cl_nI, h4, ↓reduceIte, Bool.false_eq_true]

set_option maxHeartbeats 4000000 in
set_option maxRecDepth 100000 in
theorem k_strikeFor {l : Launch} {ad : Nat → Nat} {X : gX} {a : Int32} {g : Nat → Nat} (hR : RS X 1 g) (hI : Inv g) : K_X6_strikeFor l ad [.ref 0, .int (a)] X (fun rr X' => rr = vStrF g a ∧ fA X X') := by
  refine Ct.of [.ref 0, .int (a), .null] 1 (by decide +kernel) rfl (Nat.le_of_ble_eq_true rfl) (fun F hl hC hRt _ => ?_)
  subst hl
  refine g_iload_1 hC dX6_strikeFor_0 (pc' := 1) rfl ?_
  refine g_callS1R hC (c_iField) ml_X6_105 ⟨(Nat.le_of_ble_eq_true rfl), (Nat.le_of_ble_eq_true rfl)⟩ (Nat.le_of_ble_eq_true rfl) dX6_strikeFor_1 (pc' := 4) rfl ⟨Nat.zero_le _, Nat.zero_le _⟩ ?_
  refine g_ifZ_ne hC dX6_strikeFor_4 (pc' := 7) (tgt := 9) (by decide) rfl (fun h4 => ?_) (fun h4 => ?_)
  · obtain ⟨f, rfl, -, hf⟩ := inB_N (by decide) h4 (by decide)
    have cf : cl (nI f) = f := cl_nI (by omega)
    refine g_aload_0 hC dX6_strikeFor_9 (pc' := 10) rfl ?_
    refine g_getR hC fl_X6_10 (sh_cs ad) rfl dX6_strikeFor_10 (pc' := 13) rfl ?_
    refine g_callV0R hC (c_tEmpty isB_1 hR hI) ml_X6_191 (sh_st ad isB_1) rfl ⟨(Nat.le_of_ble_eq_true rfl), (Nat.le_of_ble_eq_true rfl)⟩ (Nat.le_of_ble_eq_true rfl) dX6_strikeFor_13 (pc' := 16) rfl ⟨Nat.zero_le _, Nat.zero_le _⟩ ?_
    refine g_ifZ_eq hC dX6_strikeFor_16 (pc' := 19) (tgt := 22) (by decide) rfl (fun h16 => ?_) (fun h16 => ?_)
    · have h16b : g 2 < g 3 := Decidable.not_not.mp (of_decide_eq_false h16)
      refine g_iconst hC dX6_strikeFor_22 (pc' := 23) kc_iconst_1 rfl ?_
      refine g_istore_2 hC dX6_strikeFor_23 (pc' := 24) rfl (Nat.le_of_ble_eq_true rfl) rfl ?_
      have L24 : ∀ p, p ≤ 10 → 1 ≤ p → lfr (sfB g f) 1 = lfr (sfB g f) p → ∀ X1 : gX, fA X X1 → G F (S0 ad) (0, 0) X1 24 [.ref 0, .int (nI f), .int (nI p)] [] := by
        refine up_ind _ (fun p hk24 ih24 => ?_)
        intro hp1 hlf
        intro X1 hm24
        refine g_iload_2 hC dX6_strikeFor_24 (pc' := 25) rfl ?_
        refine g_bipush hC dX6_strikeFor_25 (pc' := 27) kc_bipush_9 rfl ?_
        refine g_icmpN_gt hC dX6_strikeFor_27 (pc' := 30) (tgt := 50) (by decide) rfl (by omega) (by omega) (fun h27 => ?_) (fun h27 => ?_)
        · refine g_bipush hC dX6_strikeFor_50 (pc' := 52) kc_bipush_m6 rfl ?_
          refine g_iretI hC hRt rfl dX6_strikeFor_52 ?_
          refine ⟨?_, hm24⟩
          rw [show p = 10 by omega, lfr_10] at hlf
          simp only [vStrF, cl_nI, h4, cf, h16, eq_true h16b, ↓reduceIte, hlf, zn]
        · refine g_aload_0 hC dX6_strikeFor_30 (pc' := 31) rfl ?_
          refine g_getR hC fl_X6_10 (sh_cs ad) rfl dX6_strikeFor_31 (pc' := 34) rfl ?_
          refine g_iload_1 hC dX6_strikeFor_34 (pc' := 35) rfl ?_
          refine g_iload_2 hC dX6_strikeFor_35 (pc' := 36) rfl ?_
          refine g_callV2I hC (c_tWould isB_1 (hm24.R hR) hI (f := f) (p := p) (by omega) ⟨hp1, by omega⟩) ml_X6_221 (sh_st ad isB_1) rfl ⟨(Nat.le_of_ble_eq_true rfl), (Nat.le_of_ble_eq_true rfl)⟩ (Nat.le_of_ble_eq_true rfl) dX6_strikeFor_36 (pc' := 39) rfl ⟨Nat.zero_le _, Nat.zero_le _⟩ (fun v36 X36 q36 => ?_)
          obtain ⟨rfl, hX⟩ := q36
          have f36 := hm24.tr (fA.a hX)
          refine g_ifZ_eq hC dX6_strikeFor_39 (pc' := 42) (tgt := 44) (by decide) rfl (fun h39 => ?_) (fun h39 => ?_)
          · refine g_iinc_2 hC dX6_strikeFor_44 (pc' := 47) rfl (Nat.le_of_ble_eq_true rfl) rfl (nI_inc _ _ kc_iinc_1) ?_
            refine g_goto hC dX6_strikeFor_47 (tgt := 24) (by decide) ?_
            exact g_weak (ih24 (by omega) (by omega) (hlf.trans (lfr_f (P := sfB g f) (by omega) h39)) _ (by exact f36)) (gle_s (gle_s (gle_i (by first | rfl | omega) gle_nil)))
          · refine g_iload_2 hC dX6_strikeFor_42 (pc' := 43) rfl ?_
            refine g_iretI hC hRt rfl dX6_strikeFor_43 ?_
            refine ⟨?_, f36⟩
            rw [lfr_t (P := sfB g f) (by omega) h39] at hlf
            simp only [vStrF, cl_nI, h4, cf, h16, eq_true h16b, h39, ↓reduceIte, hlf, zn]
            rw [if_neg (by omega)]
      exact g_weak (L24 1 (by decide) (by decide) rfl _ (by exact fA.rf)) (gle_s (gle_s (gle_s gle_nil)))
    · have h16b : ¬ g 2 < g 3 := of_decide_eq_true h16
      refine g_bipush hC dX6_strikeFor_19 (pc' := 21) kc_bipush_m6 rfl ?_
      refine g_iretI hC hRt rfl dX6_strikeFor_21 ?_
      refine ⟨?_, fA.rf⟩
      simp only [vStrF, cl_nI, h4, cf, h16, eq_false h16b, ↓reduceIte, Bool.false_eq_true]
  · refine g_iconst hC dX6_strikeFor_7 (pc' := 8) kc_iconst_m1 rfl ?_
    refine g_iretI hC hRt rfl dX6_strikeFor_8 ?_
    refine ⟨?_, fA.rf⟩
    simp only [vStrF, cl_nI, h4, ↓reduceIte, Bool.false_eq_true]

set_option maxHeartbeats 4000000 in
set_option maxRecDepth 100000 in
theorem k_lasts {l : Launch} {ad : Nat → Nat} {X : gX} {a : Int32} {g : Nat → Nat} (hR : RS X 1 g) (hI : Inv g) : K_X6_lasts l ad [.ref 0, .int (a)] X (fun rr X' => rr = vLasts g a ∧ fA X X') := by
  refine Ct.of [.ref 0, .int (a)] 0 (by decide +kernel) rfl (Nat.le_of_ble_eq_true rfl) (fun F hl hC hRt _ => ?_)
  subst hl
  refine g_iload_1 hC dX6_lasts_0 (pc' := 1) rfl ?_
  refine g_callS1R hC (c_iPress) ml_X6_121 ⟨(Nat.le_of_ble_eq_true rfl), (Nat.le_of_ble_eq_true rfl)⟩ (Nat.le_of_ble_eq_true rfl) dX6_lasts_1 (pc' := 4) rfl ⟨Nat.zero_le _, Nat.zero_le _⟩ ?_
  refine g_ifZ_ne hC dX6_lasts_4 (pc' := 7) (tgt := 10) (by decide) rfl (fun h4 => ?_) (fun h4 => ?_)
  · obtain ⟨q, rfl, hq1, hq⟩ := inB_N (by decide) h4 (by decide)
    have cq : cl (nI q) = q := cl_nI (by omega)
    refine g_aload_0 hC dX6_lasts_10 (pc' := 11) rfl ?_
    refine g_getR hC fl_X6_10 (sh_cs ad) rfl dX6_lasts_11 (pc' := 14) rfl ?_
    refine g_callV0R hC (c_tEmpty isB_1 hR hI) ml_X6_191 (sh_st ad isB_1) rfl ⟨(Nat.le_of_ble_eq_true rfl), (Nat.le_of_ble_eq_true rfl)⟩ (Nat.le_of_ble_eq_true rfl) dX6_lasts_14 (pc' := 17) rfl ⟨Nat.zero_le _, Nat.zero_le _⟩ ?_
    refine g_ifZ_eq hC dX6_lasts_17 (pc' := 20) (tgt := 23) (by decide) rfl (fun h17 => ?_) (fun h17 => ?_)
    · have h17b : g 2 < g 3 := Decidable.not_not.mp (of_decide_eq_false h17)
      refine g_aload_0 hC dX6_lasts_23 (pc' := 24) rfl ?_
      refine g_getR hC fl_X6_10 (sh_cs ad) rfl dX6_lasts_24 (pc' := 27) rfl ?_
      refine g_iload_1 hC dX6_lasts_27 (pc' := 28) rfl ?_
      refine g_callV1I hC (c_tLowest isB_1 hR hI (p := q) ⟨by omega, by omega⟩ h17b) ml_X6_224 (sh_st ad isB_1) rfl ⟨(Nat.le_of_ble_eq_true rfl), (Nat.le_of_ble_eq_true rfl)⟩ (Nat.le_of_ble_eq_true rfl) dX6_lasts_28 (pc' := 31) rfl ⟨Nat.zero_le _, Nat.zero_le _⟩ (fun v28 X28 q28 => ?_)
      obtain ⟨rfl, hX⟩ := q28
      refine g_iretI hC hRt rfl dX6_lasts_31 ?_
      refine ⟨?_, fA.a hX⟩
      simp only [vLasts, cl_nI, h4, cq, h17, eq_true h17b, ↓reduceIte, Bool.false_eq_true]
    · have h17b : ¬ g 2 < g 3 := of_decide_eq_true h17
      refine g_bipush hC dX6_lasts_20 (pc' := 22) kc_bipush_m5 rfl ?_
      refine g_iretI hC hRt rfl dX6_lasts_22 ?_
      refine ⟨?_, fA.rf⟩
      simp only [vLasts, cl_nI, h4, cq, h17, eq_false h17b, ↓reduceIte, Bool.false_eq_true]
  · refine g_bipush hC dX6_lasts_7 (pc' := 9) kc_bipush_m2 rfl ?_
    refine g_iretI hC hRt rfl dX6_lasts_9 ?_
    refine ⟨?_, fA.rf⟩
    simp only [vLasts, cl_nI, h4, ↓reduceIte, Bool.false_eq_true]

set_option maxHeartbeats 4000000 in
set_option maxRecDepth 100000 in
theorem k_ifWritten {l : Launch} {ad : Nat → Nat} {X : gX} {a v p : Int32} {g : Nat → Nat} (hR : RS X 1 g) (hI : Inv g) : K_X6_ifWritten l ad [.ref 0, .int (a), .int (v), .int (p)] X (fun rr X' => rr = vIfW g a v p ∧ fA X X') := by
  refine Ct.of [.ref 0, .int (a), .int (v), .int (p), .null] 1 (by decide +kernel) rfl (Nat.le_of_ble_eq_true rfl) (fun F hl hC hRt _ => ?_)
  subst hl
  refine g_aload_0 hC dX6_ifWritten_0 (pc' := 1) rfl ?_
  refine g_getR hC fl_X6_10 (sh_cs ad) rfl dX6_ifWritten_1 (pc' := 4) rfl ?_
  refine g_iload_1 hC dX6_ifWritten_4 (pc' := 5) rfl ?_
  refine g_iload_2 hC dX6_ifWritten_5 (pc' := 6) rfl ?_
  refine g_iload_3 hC dX6_ifWritten_6 (pc' := 7) rfl ?_
  refine g_callV3I hC (c_tBarW isB_1 hR hI) ml_X6_91 (sh_st ad isB_1) rfl ⟨(Nat.le_of_ble_eq_true rfl), (Nat.le_of_ble_eq_true rfl)⟩ (Nat.le_of_ble_eq_true rfl) dX6_ifWritten_7 (pc' := 10) rfl ⟨Nat.zero_le _, Nat.zero_le _⟩ (fun v7 X7 q7 => ?_)
  obtain ⟨rfl, hX7⟩ := q7
  have f7 := fA.a hX7
  refine g_istore_4 hC dX6_ifWritten_10 (pc' := 12) rfl (Nat.le_of_ble_eq_true rfl) rfl ?_
  refine g_iload_4 hC dX6_ifWritten_12 (pc' := 14) rfl ?_
  refine g_ifI_eq hC dX6_ifWritten_14 (pc' := 17) (tgt := 20) (by decide) rfl (fun h14 => ?_) (fun h14 => ?_)
  · have hok := bar0.mp h14
    obtain ⟨f, w, q, rfl, rfl, rfl, hf, hw, hq1, hq, hst, hfl, -⟩ := okWrt_iff hok
    refine g_aload_0 hC dX6_ifWritten_20 (pc' := 21) rfl ?_
    refine g_getR hC fl_X6_16 (sh_cs ad) rfl dX6_ifWritten_21 (pc' := 24) rfl ?_
    refine g_aload_0 hC dX6_ifWritten_24 (pc' := 25) rfl ?_
    refine g_getR hC fl_X6_10 (sh_cs ad) rfl dX6_ifWritten_25 (pc' := 28) rfl ?_
    refine g_callV1V hC (c_tCopy (g := g) isB_20 isB_1 (by decide) (f7.R hR)) ml_X6_227 (sh_st ad isB_20) rfl ⟨(Nat.le_of_ble_eq_true rfl), (Nat.le_of_ble_eq_true rfl)⟩ (Nat.le_of_ble_eq_true rfl) dX6_ifWritten_28 (pc' := 31) rfl ⟨Nat.zero_le _, Nat.zero_le _⟩ (fun X28 q28 => ?_)
    obtain ⟨r28, f28⟩ := q28
    refine g_aload_0 hC dX6_ifWritten_31 (pc' := 32) rfl ?_
    refine g_getR hC fl_X6_16 (sh_cs ad) rfl dX6_ifWritten_32 (pc' := 35) rfl ?_
    refine g_iload_1 hC dX6_ifWritten_35 (pc' := 36) rfl ?_
    refine g_iload_2 hC dX6_ifWritten_36 (pc' := 37) rfl ?_
    refine g_iload_3 hC dX6_ifWritten_37 (pc' := 38) rfl ?_
    refine g_callV3I hC (c_tPress isB_20 r28 hI (f := f) (v := w) (p := q) (by omega) hw ⟨hq1, hq⟩ hfl) ml_X6_95 (sh_st ad isB_20) rfl ⟨(Nat.le_of_ble_eq_true rfl), (Nat.le_of_ble_eq_true rfl)⟩ (Nat.le_of_ble_eq_true rfl) dX6_ifWritten_38 (pc' := 41) rfl ⟨Nat.zero_le _, Nat.zero_le _⟩ (fun v38 X38 q38 => ?_)
    obtain ⟨rfl, r38, f38⟩ := q38
    refine g_pop hC dX6_ifWritten_41 (pc' := 42) rfl rfl ?_
    refine g_aload_0 hC dX6_ifWritten_42 (pc' := 43) rfl ?_
    refine g_getR hC fl_X6_22 (sh_cs ad) rfl dX6_ifWritten_43 (pc' := 46) rfl ?_
    refine g_aload_0 hC dX6_ifWritten_46 (pc' := 47) rfl ?_
    refine g_getR hC fl_X6_16 (sh_cs ad) rfl dX6_ifWritten_47 (pc' := 50) rfl ?_
    refine g_iload_1 hC dX6_ifWritten_50 (pc' := 51) rfl ?_
    refine g_callV2V hC (c_takeIn isB_20 r38 (Inv_wrt hI ⟨hq1, hq⟩ (by omega) hw hfl) (f := f) (by omega)) ml_X6_172 (sh_tally ad) rfl ⟨(Nat.le_of_ble_eq_true rfl), (Nat.le_of_ble_eq_true rfl)⟩ (Nat.le_of_ble_eq_true rfl) dX6_ifWritten_51 (pc' := 54) rfl ⟨Nat.zero_le _, Nat.zero_le _⟩ (fun X51 q51 => ?_)
    obtain ⟨e51, t0, t1, t2, t3, t4⟩ := q51
    have htb := tly_b (Inv_wrt hI ⟨hq1, hq⟩ (show f < 10 by omega) hw hfl) (show f < 10 by omega) 5 (by decide)
    have fs := ((f7.tr (fA.o f28)).tr (fA.o f38)).tr (fA.t e51)
    refine g_aload_0 hC dX6_ifWritten_54 (pc' := 55) rfl ?_
    refine g_getR hC fl_X6_22 (sh_cs ad) rfl dX6_ifWritten_55 (pc' := 58) rfl ?_
    refine g_getI hC fl_X6_176 (sh_tally ad) rfl (t1) dX6_ifWritten_58 (pc' := 61) rfl ?_
    refine g_iconst hC dX6_ifWritten_61 (pc' := 62) kc_iconst_1 rfl ?_
    refine g_icmpN_ne hC dX6_ifWritten_62 (pc' := 65) (tgt := 75) (by decide) rfl (by omega) (by omega) (fun h62 => ?_) (fun h62 => ?_)
    · refine g_bipush hC dX6_ifWritten_75 (pc' := 77) kc_bipush_m6 rfl ?_
      refine g_iretI hC hRt rfl dX6_ifWritten_77 ?_
      refine ⟨?_, fs⟩
      unfold vIfW
      rw [if_pos hok, cl_nI (by omega), cl_nI (by omega), cl_nI (by omega)]
      first | rw [if_pos h62] | rw [if_neg h62]
    · refine g_aload_0 hC dX6_ifWritten_65 (pc' := 66) rfl ?_
      refine g_getR hC fl_X6_22 (sh_cs ad) rfl dX6_ifWritten_66 (pc' := 69) rfl ?_
      refine g_getI hC fl_X6_179 (sh_tally ad) rfl (t2.trans (if_neg (by omega))) dX6_ifWritten_69 (pc' := 72) rfl ?_
      refine g_goto hC dX6_ifWritten_72 (tgt := 77) (by decide) ?_
      refine g_iretI hC hRt rfl dX6_ifWritten_77 ?_
      refine ⟨?_, fs⟩
      unfold vIfW
      rw [if_pos hok, cl_nI (by omega), cl_nI (by omega), cl_nI (by omega)]
      first | rw [if_pos h62] | rw [if_neg h62]
  · have hok : okWrt g a v p = false := by
      cases hz : okWrt g a v p with
      | false => rfl
      | true => exact absurd (bar0.mpr hz) h14
    refine g_iload_4 hC dX6_ifWritten_17 (pc' := 19) rfl ?_
    refine g_iretI hC hRt rfl dX6_ifWritten_19 ?_
    exact ⟨by simp only [vIfW, hok, Bool.false_eq_true, ↓reduceIte], f7⟩
