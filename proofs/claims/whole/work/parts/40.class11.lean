def CRc (X : gX) (ok : Bool) (g g' : Nat → Nat) (n : Nat) (h : Nat → Nat → Nat) : Prop := if ok = true then RS X 1 g' ∧ HC X (recN false n) (recH false h n g) else RS X 1 g ∧ HC X n h
theorem CRc_f {X : gX} {ok : Bool} {g g' : Nat → Nat} {n : Nat} {h : Nat → Nat → Nat} (e : ok = false) (m : RS X 1 g ∧ HC X n h) : CRc X ok g g' n h := by unfold CRc; rw [e, if_neg (by decide)]; exact m
theorem CRc_t {X : gX} {ok : Bool} {g g' : Nat → Nat} {n : Nat} {h : Nat → Nat → Nat} (e : ok = true) (m : RS X 1 g' ∧ HC X (recN false n) (recH false h n g)) : CRc X ok g g' n h := by unfold CRc; rw [if_pos e]; exact m
/-- what the class may touch where it changes -/
def fM (X X' : gX) : Prop := ∀ i, (i < 1 ∨ (20 ≤ i ∧ i < 42) ∨ 158 ≤ i) → X' i = X i
theorem fM.rf {X : gX} : fM X X := fun _ _ => rfl
theorem fM.tr {X Y W : gX} (h : fM X Y) (h2 : fM Y W) : fM X W := fun i a => (h2 i a).trans (h i a)
theorem fM.h {X Y : gX} (e : fH X Y) : fM X Y := fun i a => e i (by omega)
theorem fM.o {X Y : gX} (e : fO 1 X Y) : fM X Y := fun i a => e i (by omega)
theorem fM.a {X Y : gX} (e : ∀ i, i ≠ 1 + 3 → Y i = X i) : fM X Y := fun i a => e i (by omega)
theorem fM.g {X Y : gX} {j : Nat} {v : Int32} {a : Nat} (h : fM X Y) (ha : 1 ≤ a ∧ a < 20) : fM X (gu Y a j v) := fun i hi => (gu_ne i (by omega)).trans (h i hi)
theorem HC.o {X Y : gX} {n : Nat} {h : Nat → Nat → Nat} (m : HC X n h) (e : ∀ i, 20 ≤ i → Y i = X i) : HC Y n h := m.of (fun i a _ => e i (by omega))
theorem RS_set {X : gX} {B d v : Nat} {g : Nat → Nat} (hd : d ≤ 1) (h : RS X B g) : RS (gu X (B + 2) d (nI v)) B (updN g d v) := by
  refine ⟨?_, ?_, fun t ht => ((h.2.2 t ht).of (gu_ne _ (by omega)) (gu_ne _ (by omega)) (gu_ne _ (by omega))).cg (fun j hj => ?_)⟩
  · rcases (show d = 0 ∨ d = 1 by omega) with rfl | rfl
    · rw [gu_at, gu_id (by decide)]; exact ⟨rfl, h.1.2⟩
    · rw [gu_at, gu_id (by decide)]; exact ⟨h.1.1, rfl⟩
  · rw [gu_ne _ (by omega)]
    unfold updN
    rw [if_neg (by omega), if_neg (by omega)]
    exact h.2.1
  · unfold cel at hj; unfold updN; rw [if_neg (by omega)]
theorem set_at {X : gX} {B d : Nat} {g : Nat → Nat} (hd : d ≤ 1) (h : RS X B g) : X (B + 2) d = nI (g d) := by
  rcases (show d = 0 ∨ d = 1 by omega) with rfl | rfl
  · exact h.1.1
  · exact h.1.2
theorem barS0 {g : Nat → Nat} {a p : Int32} : barS g a p = nI 0 ↔ okStr g a p = true := by
  unfold barS okStr
  cases h1 : inB a (nI 0) (nI 9) with
  | false => simp; decide
  | true =>
    cases h2 : inB p (nI 1) (nI 9) with
    | false => simp; decide
    | true => by_cases h3 : g 2 < g 3 <;> simp [h3]; decide
theorem rStr_bar {g : Nat → Nat} {a p : Int32} (h : okStr g a p = false) : rStr g a p = barS g a p := by
  unfold okStr at h
  unfold rStr barS
  cases h1 : inB a (nI 0) (nI 9) with
  | false => simp
  | true =>
    cases h2 : inB p (nI 1) (nI 9) with
    | false => simp
    | true =>
      rw [h1, h2] at h
      have h3 : ¬ g 2 < g 3 := by simpa using h
      simp [h3]
theorem barT0 {g : Nat → Nat} {a : Int32} : barT g a = nI 0 ↔ okTear g a = true := by
  unfold barT okTear
  cases h1 : inB a (nI 0) (nI 1) with
  | false => simp; decide
  | true => by_cases h3 : g 2 < g 3 <;> simp [h3]; decide
theorem rTear_bar {g : Nat → Nat} {a : Int32} (h : okTear g a = false) : rTear g a = barT g a := by
  unfold okTear at h
  unfold rTear barT
  cases h1 : inB a (nI 0) (nI 1) with
  | false => simp
  | true =>
    rw [h1] at h
    have h3 : ¬ g 2 < g 3 := by simpa using h
    simp [h3]

set_option maxHeartbeats 4000000 in
set_option maxRecDepth 100000 in
theorem k_set {l : Launch} {ad : Nat → Nat} {X : gX} {a w : Int32} {n : Nat} {h : Nat → Nat → Nat} {g : Nat → Nat} (hR : RS X 1 g) (hH : HC X n h) (hI : Inv g) : K_X6_set l ad [.ref 0, .int (a), .int (w)] X (fun rr X' => rr = rSet g a w ∧ CRc X' (okSet a w) g (updN g (cl a) (cl w)) n h ∧ fM X X') := by
  refine Ct.of [.ref 0, .int (a), .int (w), .null] 1 (by decide +kernel) rfl (Nat.le_of_ble_eq_true rfl) (fun F hl hC hRt _ => ?_)
  subst hl
  refine g_iload_1 hC dX6_set_0 (pc' := 1) rfl ?_
  refine g_iload_2 hC dX6_set_1 (pc' := 2) rfl ?_
  refine g_callS2R hC (c_iSet) ml_X6_55 ⟨(Nat.le_of_ble_eq_true rfl), (Nat.le_of_ble_eq_true rfl)⟩ (Nat.le_of_ble_eq_true rfl) dX6_set_2 (pc' := 5) rfl ⟨Nat.zero_le _, Nat.zero_le _⟩ ?_
  refine g_ifZ_ne hC dX6_set_5 (pc' := 8) (tgt := 11) (by decide) rfl (fun h5 => ?_) (fun h5 => ?_)
  · rw [setB_ok] at h5
    have hok := h5
    obtain ⟨i1, i2⟩ := Bool.and_eq_true_iff.mp h5
    obtain ⟨d, rfl, -, hd⟩ := inB_N (by decide) i1 (by decide)
    have cd : cl (nI d) = d := cl_nI (by omega)
    have hz9 : ∃ z, w = nI z ∧ z ≤ 9 := by
      split at i2
      · obtain ⟨z, rfl, -, hz⟩ := inB_N (by decide) i2 (by decide); exact ⟨z, rfl, hz⟩
      · obtain ⟨z, rfl, -, hz⟩ := inB_N (by decide) i2 (by decide); exact ⟨z, rfl, by omega⟩
    obtain ⟨z, rfl, hz⟩ := hz9
    have cz : cl (nI z) = z := cl_nI (by omega)
    refine g_aload_0 hC dX6_set_11 (pc' := 12) rfl ?_
    refine g_getR hC fl_X6_29 (sh_cs ad) rfl dX6_set_12 (pc' := 15) rfl ?_
    refine g_aload_0 hC dX6_set_15 (pc' := 16) rfl ?_
    refine g_getR hC fl_X6_10 (sh_cs ad) rfl dX6_set_16 (pc' := 19) rfl ?_
    refine g_callV1V hC (c_hRecord hH hR) ml_X6_59 (sh_hist ad) rfl ⟨(Nat.le_of_ble_eq_true rfl), (Nat.le_of_ble_eq_true rfl)⟩ (Nat.le_of_ble_eq_true rfl) dX6_set_19 (pc' := 22) rfl ⟨Nat.zero_le _, Nat.zero_le _⟩ (fun X19 q19 => ?_)
    obtain ⟨H19, f19⟩ := q19
    have R19 := hR.of (fun i h1 h2 _ => f19 i (by omega))
    refine g_aload_0 hC dX6_set_22 (pc' := 23) rfl ?_
    refine g_getR hC fl_X6_10 (sh_cs ad) rfl dX6_set_23 (pc' := 26) rfl ?_
    refine g_getR hC fl_X6_63 (sh_st ad isB_1) rfl dX6_set_26 (pc' := 29) rfl ?_
    refine g_iload_1 hC dX6_set_29 (pc' := 30) rfl ?_
    refine g_iald hC (sh_st2 ad isB_1) (Nat.le_of_ble_eq_true rfl) (by omega) (set_at hd R19) dX6_set_30 (pc' := 31) rfl ?_
    refine g_istore_3 hC dX6_set_31 (pc' := 32) rfl (Nat.le_of_ble_eq_true rfl) rfl ?_
    refine g_aload_0 hC dX6_set_32 (pc' := 33) rfl ?_
    refine g_getR hC fl_X6_10 (sh_cs ad) rfl dX6_set_33 (pc' := 36) rfl ?_
    refine g_getR hC fl_X6_63 (sh_st ad isB_1) rfl dX6_set_36 (pc' := 39) rfl ?_
    refine g_iload_1 hC dX6_set_39 (pc' := 40) rfl ?_
    refine g_iload_2 hC dX6_set_40 (pc' := 41) rfl ?_
    refine g_iast hC (sh_st2 ad isB_1) (Nat.le_of_ble_eq_true rfl) (by omega) dX6_set_41 (pc' := 42) rfl ?_
    refine g_iload_3 hC dX6_set_42 (pc' := 43) rfl ?_
    refine g_iretI hC hRt rfl dX6_set_43 ?_
    refine ⟨by simp only [rSet, hok, cd, ↓reduceIte], CRc_t hok ?_, (fM.h f19).g (by decide)⟩
    rw [cd, cz]
    exact ⟨RS_set hd R19, H19.o (fun i hi => gu_ne i (by omega))⟩
  · rw [setB_ok] at h5
    refine g_bipush hC dX6_set_8 (pc' := 10) kc_bipush_m2 rfl ?_
    refine g_iretI hC hRt rfl dX6_set_10 ?_
    exact ⟨by simp only [rSet, h5, Bool.false_eq_true, ↓reduceIte], CRc_f h5 ⟨hR, hH⟩, fM.rf⟩

set_option maxHeartbeats 4000000 in
set_option maxRecDepth 100000 in
theorem k_thickness {l : Launch} {ad : Nat → Nat} {X : gX} {a w : Int32} {n : Nat} {h : Nat → Nat → Nat} {g : Nat → Nat} (hR : RS X 1 g) (hH : HC X n h) (hI : Inv g) : K_X6_thickness l ad [.ref 0, .int (a), .int (w)] X (fun rr X' => rr = rThick g a w ∧ CRc X' (okThick a w) g (updN g (4 + cl a) (cl w)) n h ∧ fM X X') := by
  refine Ct.of [.ref 0, .int (a), .int (w), .null] 1 (by decide +kernel) rfl (Nat.le_of_ble_eq_true rfl) (fun F hl hC hRt _ => ?_)
  subst hl
  refine g_iload_1 hC dX6_thickness_0 (pc' := 1) rfl ?_
  refine g_callS1R hC (c_iSheet) ml_X6_67 ⟨(Nat.le_of_ble_eq_true rfl), (Nat.le_of_ble_eq_true rfl)⟩ (Nat.le_of_ble_eq_true rfl) dX6_thickness_1 (pc' := 4) rfl ⟨Nat.zero_le _, Nat.zero_le _⟩ ?_
  refine g_ifZ_ne hC dX6_thickness_4 (pc' := 7) (tgt := 9) (by decide) rfl (fun h4 => ?_) (fun h4 => ?_)
  · obtain ⟨s, rfl, -, hs⟩ := inB_N (by decide) h4 (by decide)
    have cs : cl (nI s) = s := cl_nI (by omega)
    refine g_iload_2 hC dX6_thickness_9 (pc' := 10) rfl ?_
    refine g_iconst hC dX6_thickness_10 (pc' := 11) kc_iconst_0 rfl ?_
    refine g_iconst hC dX6_thickness_11 (pc' := 12) kc_iconst_4 rfl ?_
    refine g_callS3R hC (c_iW) ml_X6_71 ⟨(Nat.le_of_ble_eq_true rfl), (Nat.le_of_ble_eq_true rfl)⟩ (Nat.le_of_ble_eq_true rfl) dX6_thickness_12 (pc' := 15) rfl ⟨Nat.zero_le _, Nat.zero_le _⟩ ?_
    refine g_ifZ_ne hC dX6_thickness_15 (pc' := 18) (tgt := 21) (by decide) rfl (fun h15 => ?_) (fun h15 => ?_)
    · obtain ⟨z, rfl, -, hz⟩ := inB_N (by decide) h15 (by decide)
      have cz : cl (nI z) = z := cl_nI (by omega)
      refine g_aload_0 hC dX6_thickness_21 (pc' := 22) rfl ?_
      refine g_getR hC fl_X6_29 (sh_cs ad) rfl dX6_thickness_22 (pc' := 25) rfl ?_
      refine g_aload_0 hC dX6_thickness_25 (pc' := 26) rfl ?_
      refine g_getR hC fl_X6_10 (sh_cs ad) rfl dX6_thickness_26 (pc' := 29) rfl ?_
      refine g_callV1V hC (c_hRecord hH hR) ml_X6_59 (sh_hist ad) rfl ⟨(Nat.le_of_ble_eq_true rfl), (Nat.le_of_ble_eq_true rfl)⟩ (Nat.le_of_ble_eq_true rfl) dX6_thickness_29 (pc' := 32) rfl ⟨Nat.zero_le _, Nat.zero_le _⟩ (fun X29 q29 => ?_)
      obtain ⟨H29, f29⟩ := q29
      have R29 := hR.of (fun i h1 h2 _ => f29 i (by omega))
      refine g_aload_0 hC dX6_thickness_32 (pc' := 33) rfl ?_
      refine g_getR hC fl_X6_10 (sh_cs ad) rfl dX6_thickness_33 (pc' := 36) rfl ?_
      refine g_getR hC fl_X6_75 (sh_st ad isB_1) rfl dX6_thickness_36 (pc' := 39) rfl ?_
      refine g_iload_1 hC dX6_thickness_39 (pc' := 40) rfl ?_
      refine g_aald4 hC (sh_st1 ad isB_1) (Nat.le_of_ble_eq_true rfl) (by omega) (sheets_at (by omega)) dX6_thickness_40 (pc' := 41) rfl ?_
      refine g_getI hC fl_X6_79 (sh_sheet ad isB_1 (by omega)) rfl ((R29.2.2 s (by omega)).1.1) dX6_thickness_41 (pc' := 44) rfl ?_
      refine g_istore_3 hC dX6_thickness_44 (pc' := 45) rfl (Nat.le_of_ble_eq_true rfl) rfl ?_
      refine g_aload_0 hC dX6_thickness_45 (pc' := 46) rfl ?_
      refine g_getR hC fl_X6_10 (sh_cs ad) rfl dX6_thickness_46 (pc' := 49) rfl ?_
      refine g_getR hC fl_X6_75 (sh_st ad isB_1) rfl dX6_thickness_49 (pc' := 52) rfl ?_
      refine g_iload_1 hC dX6_thickness_52 (pc' := 53) rfl ?_
      refine g_aald4 hC (sh_st1 ad isB_1) (Nat.le_of_ble_eq_true rfl) (by omega) (sheets_at (by omega)) dX6_thickness_53 (pc' := 54) rfl ?_
      refine g_iload_2 hC dX6_thickness_54 (pc' := 55) rfl ?_
      refine g_putI hC fl_X6_79 (sh_sheet ad isB_1 (by omega)) rfl rfl rfl dX6_thickness_55 (pc' := 58) rfl ?_
      refine g_iload_3 hC dX6_thickness_58 (pc' := 59) rfl ?_
      refine g_iretI hC hRt rfl dX6_thickness_59 ?_
      refine ⟨?_, CRc_t ?_ ?_, (fM.h f29).g (by omega)⟩
      · simp only [rThick, okThick, cl_nI, h4, cs, h15, cz, ↓reduceIte, Bool.false_eq_true, Bool.and_true, Bool.true_and, Bool.and_false, Bool.false_and, decide_true, decide_false, Bool.not_true, Bool.not_false]
      · simp only [okThick, cl_nI, h4, cs, h15, cz, ↓reduceIte, Bool.false_eq_true, Bool.and_true, Bool.true_and, Bool.and_false, Bool.false_and, decide_true, decide_false, Bool.not_true, Bool.not_false]
      · rw [cs, cz]
        exact ⟨by have z := RS_fld (c := 0) (v := z) (show s < 5 by omega) (by decide) R29; rw [show 4 + 5 * 0 + s = 4 + s by omega] at z; exact z, H29.o (fun i hi => gu_ne i (by omega))⟩
    · refine g_bipush hC dX6_thickness_18 (pc' := 20) kc_bipush_m2 rfl ?_
      refine g_iretI hC hRt rfl dX6_thickness_20 ?_
      refine ⟨?_, CRc_f ?_ ⟨hR, hH⟩, fM.rf⟩
      · simp only [rThick, okThick, cl_nI, h4, cs, h15, ↓reduceIte, Bool.false_eq_true, Bool.and_true, Bool.true_and, Bool.and_false, Bool.false_and, decide_true, decide_false, Bool.not_true, Bool.not_false]
      · simp only [okThick, cl_nI, h4, cs, h15, ↓reduceIte, Bool.false_eq_true, Bool.and_true, Bool.true_and, Bool.and_false, Bool.false_and, decide_true, decide_false, Bool.not_true, Bool.not_false]
  · refine g_iconst hC dX6_thickness_7 (pc' := 8) kc_iconst_m1 rfl ?_
    refine g_iretI hC hRt rfl dX6_thickness_8 ?_
    refine ⟨?_, CRc_f ?_ ⟨hR, hH⟩, fM.rf⟩
    · simp only [rThick, okThick, cl_nI, h4, ↓reduceIte, Bool.false_eq_true, Bool.and_true, Bool.true_and, Bool.and_false, Bool.false_and, decide_true, decide_false, Bool.not_true, Bool.not_false]
    · simp only [okThick, cl_nI, h4, ↓reduceIte, Bool.false_eq_true, Bool.and_true, Bool.true_and, Bool.and_false, Bool.false_and, decide_true, decide_false, Bool.not_true, Bool.not_false]

set_option maxHeartbeats 4000000 in
set_option maxRecDepth 100000 in
theorem k_carbon {l : Launch} {ad : Nat → Nat} {X : gX} {a w : Int32} {n : Nat} {h : Nat → Nat → Nat} {g : Nat → Nat} (hR : RS X 1 g) (hH : HC X n h) (hI : Inv g) : K_X6_carbon l ad [.ref 0, .int (a), .int (w)] X (fun rr X' => rr = rCarb g a w ∧ CRc X' (okCarb g a w) g (updN g (9 + cl a) (cl w)) n h ∧ fM X X') := by
  refine Ct.of [.ref 0, .int (a), .int (w), .null] 1 (by decide +kernel) rfl (Nat.le_of_ble_eq_true rfl) (fun F hl hC hRt _ => ?_)
  subst hl
  refine g_iload_1 hC dX6_carbon_0 (pc' := 1) rfl ?_
  refine g_callS1R hC (c_iSheet) ml_X6_67 ⟨(Nat.le_of_ble_eq_true rfl), (Nat.le_of_ble_eq_true rfl)⟩ (Nat.le_of_ble_eq_true rfl) dX6_carbon_1 (pc' := 4) rfl ⟨Nat.zero_le _, Nat.zero_le _⟩ ?_
  refine g_ifZ_ne hC dX6_carbon_4 (pc' := 7) (tgt := 9) (by decide) rfl (fun h4 => ?_) (fun h4 => ?_)
  · obtain ⟨s, rfl, -, hs⟩ := inB_N (by decide) h4 (by decide)
    have cs : cl (nI s) = s := cl_nI (by omega)
    refine g_iload_2 hC dX6_carbon_9 (pc' := 10) rfl ?_
    refine g_iconst hC dX6_carbon_10 (pc' := 11) kc_iconst_0 rfl ?_
    refine g_sipush hC dX6_carbon_11 (pc' := 14) kc_sipush_300 rfl ?_
    refine g_callS3R hC (c_iW) ml_X6_71 ⟨(Nat.le_of_ble_eq_true rfl), (Nat.le_of_ble_eq_true rfl)⟩ (Nat.le_of_ble_eq_true rfl) dX6_carbon_14 (pc' := 17) rfl ⟨Nat.zero_le _, Nat.zero_le _⟩ ?_
    refine g_ifZ_ne hC dX6_carbon_17 (pc' := 20) (tgt := 23) (by decide) rfl (fun h17 => ?_) (fun h17 => ?_)
    · obtain ⟨z, rfl, -, hz⟩ := inB_N (by decide) h17 (by decide)
      have cz : cl (nI z) = z := cl_nI (by omega)
      refine g_aload_0 hC dX6_carbon_23 (pc' := 24) rfl ?_
      refine g_getR hC fl_X6_10 (sh_cs ad) rfl dX6_carbon_24 (pc' := 27) rfl ?_
      refine g_iload_1 hC dX6_carbon_27 (pc' := 28) rfl ?_
      refine g_callV1R hC (c_tIn isB_1 hR hI (s := s) (by omega)) ml_X6_85 (sh_st ad isB_1) rfl ⟨(Nat.le_of_ble_eq_true rfl), (Nat.le_of_ble_eq_true rfl)⟩ (Nat.le_of_ble_eq_true rfl) dX6_carbon_28 (pc' := 31) rfl ⟨Nat.zero_le _, Nat.zero_le _⟩ ?_
      refine g_ifZ_ne hC dX6_carbon_31 (pc' := 34) (tgt := 37) (by decide) rfl (fun h31 => ?_) (fun h31 => ?_)
      · refine g_aload_0 hC dX6_carbon_37 (pc' := 38) rfl ?_
        refine g_getR hC fl_X6_29 (sh_cs ad) rfl dX6_carbon_38 (pc' := 41) rfl ?_
        refine g_aload_0 hC dX6_carbon_41 (pc' := 42) rfl ?_
        refine g_getR hC fl_X6_10 (sh_cs ad) rfl dX6_carbon_42 (pc' := 45) rfl ?_
        refine g_callV1V hC (c_hRecord hH hR) ml_X6_59 (sh_hist ad) rfl ⟨(Nat.le_of_ble_eq_true rfl), (Nat.le_of_ble_eq_true rfl)⟩ (Nat.le_of_ble_eq_true rfl) dX6_carbon_45 (pc' := 48) rfl ⟨Nat.zero_le _, Nat.zero_le _⟩ (fun X45 q45 => ?_)
        obtain ⟨H45, f45⟩ := q45
        have R45 := hR.of (fun i h1 h2 _ => f45 i (by omega))
        refine g_aload_0 hC dX6_carbon_48 (pc' := 49) rfl ?_
        refine g_getR hC fl_X6_10 (sh_cs ad) rfl dX6_carbon_49 (pc' := 52) rfl ?_
        refine g_getR hC fl_X6_75 (sh_st ad isB_1) rfl dX6_carbon_52 (pc' := 55) rfl ?_
        refine g_iload_1 hC dX6_carbon_55 (pc' := 56) rfl ?_
        refine g_aald4 hC (sh_st1 ad isB_1) (Nat.le_of_ble_eq_true rfl) (by omega) (sheets_at (by omega)) dX6_carbon_56 (pc' := 57) rfl ?_
        refine g_getI hC fl_X6_88 (sh_sheet ad isB_1 (by omega)) rfl ((R45.2.2 s (by omega)).1.2.1) dX6_carbon_57 (pc' := 60) rfl ?_
        refine g_istore_3 hC dX6_carbon_60 (pc' := 61) rfl (Nat.le_of_ble_eq_true rfl) rfl ?_
        refine g_aload_0 hC dX6_carbon_61 (pc' := 62) rfl ?_
        refine g_getR hC fl_X6_10 (sh_cs ad) rfl dX6_carbon_62 (pc' := 65) rfl ?_
        refine g_getR hC fl_X6_75 (sh_st ad isB_1) rfl dX6_carbon_65 (pc' := 68) rfl ?_
        refine g_iload_1 hC dX6_carbon_68 (pc' := 69) rfl ?_
        refine g_aald4 hC (sh_st1 ad isB_1) (Nat.le_of_ble_eq_true rfl) (by omega) (sheets_at (by omega)) dX6_carbon_69 (pc' := 70) rfl ?_
        refine g_iload_2 hC dX6_carbon_70 (pc' := 71) rfl ?_
        refine g_putI hC fl_X6_88 (sh_sheet ad isB_1 (by omega)) rfl rfl rfl dX6_carbon_71 (pc' := 74) rfl ?_
        refine g_iload_3 hC dX6_carbon_74 (pc' := 75) rfl ?_
        refine g_iretI hC hRt rfl dX6_carbon_75 ?_
        refine ⟨?_, CRc_t ?_ ?_, (fM.h f45).g (by omega)⟩
        · simp only [rCarb, okCarb, cl_nI, h4, cs, h17, cz, h31, ↓reduceIte, Bool.false_eq_true, Bool.and_true, Bool.true_and, Bool.and_false, Bool.false_and, decide_true, decide_false, Bool.not_true, Bool.not_false]
        · simp only [okCarb, cl_nI, h4, cs, h17, cz, h31, ↓reduceIte, Bool.false_eq_true, Bool.and_true, Bool.true_and, Bool.and_false, Bool.false_and, decide_true, decide_false, Bool.not_true, Bool.not_false]
        · rw [cs, cz]
          exact ⟨by have z := RS_fld (c := 1) (v := z) (show s < 5 by omega) (by decide) R45; rw [show 4 + 5 * 1 + s = 9 + s by omega] at z; exact z, H45.o (fun i hi => gu_ne i (by omega))⟩
      · refine g_bipush hC dX6_carbon_34 (pc' := 36) kc_bipush_m5 rfl ?_
        refine g_iretI hC hRt rfl dX6_carbon_36 ?_
        refine ⟨?_, CRc_f ?_ ⟨hR, hH⟩, fM.rf⟩
        · simp only [rCarb, okCarb, cl_nI, h4, cs, h17, cz, h31, ↓reduceIte, Bool.false_eq_true, Bool.and_true, Bool.true_and, Bool.and_false, Bool.false_and, decide_true, decide_false, Bool.not_true, Bool.not_false]
        · simp only [okCarb, cl_nI, h4, cs, h17, cz, h31, ↓reduceIte, Bool.false_eq_true, Bool.and_true, Bool.true_and, Bool.and_false, Bool.false_and, decide_true, decide_false, Bool.not_true, Bool.not_false]
    · refine g_bipush hC dX6_carbon_20 (pc' := 22) kc_bipush_m2 rfl ?_
      refine g_iretI hC hRt rfl dX6_carbon_22 ?_
      refine ⟨?_, CRc_f ?_ ⟨hR, hH⟩, fM.rf⟩
      · simp only [rCarb, okCarb, cl_nI, h4, cs, h17, ↓reduceIte, Bool.false_eq_true, Bool.and_true, Bool.true_and, Bool.and_false, Bool.false_and, decide_true, decide_false, Bool.not_true, Bool.not_false]
      · simp only [okCarb, cl_nI, h4, cs, h17, ↓reduceIte, Bool.false_eq_true, Bool.and_true, Bool.true_and, Bool.and_false, Bool.false_and, decide_true, decide_false, Bool.not_true, Bool.not_false]
  · refine g_iconst hC dX6_carbon_7 (pc' := 8) kc_iconst_m1 rfl ?_
    refine g_iretI hC hRt rfl dX6_carbon_8 ?_
    refine ⟨?_, CRc_f ?_ ⟨hR, hH⟩, fM.rf⟩
    · simp only [rCarb, okCarb, cl_nI, h4, ↓reduceIte, Bool.false_eq_true, Bool.and_true, Bool.true_and, Bool.and_false, Bool.false_and, decide_true, decide_false, Bool.not_true, Bool.not_false]
    · simp only [okCarb, cl_nI, h4, ↓reduceIte, Bool.false_eq_true, Bool.and_true, Bool.true_and, Bool.and_false, Bool.false_and, decide_true, decide_false, Bool.not_true, Bool.not_false]

set_option maxHeartbeats 4000000 in
set_option maxRecDepth 100000 in
theorem k_write {l : Launch} {ad : Nat → Nat} {X : gX} {a v p : Int32} {n : Nat} {h : Nat → Nat → Nat} {g : Nat → Nat} (hR : RS X 1 g) (hH : HC X n h) (hI : Inv g) : K_X6_write l ad [.ref 0, .int (a), .int (v), .int (p)] X (fun rr X' => rr = rWrt g a v p ∧ CRc X' (okWrt g a v p) g (wrt g (cl a) (cl v) (cl p)) n h ∧ fM X X') := by
  refine Ct.of [.ref 0, .int (a), .int (v), .int (p), .null] 1 (by decide +kernel) rfl (Nat.le_of_ble_eq_true rfl) (fun F hl hC hRt _ => ?_)
  subst hl
  refine g_aload_0 hC dX6_write_0 (pc' := 1) rfl ?_
  refine g_getR hC fl_X6_10 (sh_cs ad) rfl dX6_write_1 (pc' := 4) rfl ?_
  refine g_iload_1 hC dX6_write_4 (pc' := 5) rfl ?_
  refine g_iload_2 hC dX6_write_5 (pc' := 6) rfl ?_
  refine g_iload_3 hC dX6_write_6 (pc' := 7) rfl ?_
  refine g_callV3I hC (c_tBarW isB_1 hR hI) ml_X6_91 (sh_st ad isB_1) rfl ⟨(Nat.le_of_ble_eq_true rfl), (Nat.le_of_ble_eq_true rfl)⟩ (Nat.le_of_ble_eq_true rfl) dX6_write_7 (pc' := 10) rfl ⟨Nat.zero_le _, Nat.zero_le _⟩ (fun v7 X7 q7 => ?_)
  obtain ⟨rfl, hX7⟩ := q7
  have R7 := hR.arr hX7
  have H7 := hH.o (fun i hi => hX7 i (by omega))
  refine g_istore_4 hC dX6_write_10 (pc' := 12) rfl (Nat.le_of_ble_eq_true rfl) rfl ?_
  refine g_iload_4 hC dX6_write_12 (pc' := 14) rfl ?_
  refine g_ifI_eq hC dX6_write_14 (pc' := 17) (tgt := 20) (by decide) rfl (fun h14 => ?_) (fun h14 => ?_)
  · have hok := bar0.mp h14
    obtain ⟨f, w, q, rfl, rfl, rfl, hf, hw, hq1, hq, hst, hfl, -⟩ := okWrt_iff hok
    refine g_aload_0 hC dX6_write_20 (pc' := 21) rfl ?_
    refine g_getR hC fl_X6_29 (sh_cs ad) rfl dX6_write_21 (pc' := 24) rfl ?_
    refine g_aload_0 hC dX6_write_24 (pc' := 25) rfl ?_
    refine g_getR hC fl_X6_10 (sh_cs ad) rfl dX6_write_25 (pc' := 28) rfl ?_
    refine g_callV1V hC (c_hRecord H7 R7) ml_X6_59 (sh_hist ad) rfl ⟨(Nat.le_of_ble_eq_true rfl), (Nat.le_of_ble_eq_true rfl)⟩ (Nat.le_of_ble_eq_true rfl) dX6_write_28 (pc' := 31) rfl ⟨Nat.zero_le _, Nat.zero_le _⟩ (fun X28 q28 => ?_)
    obtain ⟨H28, f28⟩ := q28
    have R28 := R7.of (fun i h1 h2 _ => f28 i (by omega))
    refine g_aload_0 hC dX6_write_31 (pc' := 32) rfl ?_
    refine g_getR hC fl_X6_10 (sh_cs ad) rfl dX6_write_32 (pc' := 35) rfl ?_
    refine g_iload_1 hC dX6_write_35 (pc' := 36) rfl ?_
    refine g_iload_2 hC dX6_write_36 (pc' := 37) rfl ?_
    refine g_iload_3 hC dX6_write_37 (pc' := 38) rfl ?_
    refine g_callV3I hC (c_tPress isB_1 R28 hI (f := f) (v := w) (p := q) (by omega) hw ⟨hq1, hq⟩ hfl) ml_X6_95 (sh_st ad isB_1) rfl ⟨(Nat.le_of_ble_eq_true rfl), (Nat.le_of_ble_eq_true rfl)⟩ (Nat.le_of_ble_eq_true rfl) dX6_write_38 (pc' := 41) rfl ⟨Nat.zero_le _, Nat.zero_le _⟩ (fun v38 X38 q38 => ?_)
    obtain ⟨rfl, r38, f38⟩ := q38
    refine g_iretI hC hRt rfl dX6_write_41 ?_
    exact ⟨by simp only [rWrt, hok, ↓reduceIte, cl_nI (show q < 1073741824 by omega)], CRc_t hok (by rw [cl_nI (by omega), cl_nI (by omega), cl_nI (by omega)]; exact ⟨r38, H28.o (fun i hi => f38 i (by omega))⟩), ((fM.a hX7).tr (fM.h f28)).tr (fM.o f38)⟩
  · have hok : okWrt g a v p = false := by
      cases hz : okWrt g a v p with
      | false => rfl
      | true => exact absurd (bar0.mpr hz) h14
    refine g_iload_4 hC dX6_write_17 (pc' := 19) rfl ?_
    refine g_iretI hC hRt rfl dX6_write_19 ?_
    exact ⟨by simp only [rWrt, hok, Bool.false_eq_true, ↓reduceIte], CRc_f hok ⟨R7, H7⟩, fM.a hX7⟩

set_option maxHeartbeats 4000000 in
set_option maxRecDepth 100000 in
theorem k_strike {l : Launch} {ad : Nat → Nat} {X : gX} {a p : Int32} {n : Nat} {h : Nat → Nat → Nat} {g : Nat → Nat} (hR : RS X 1 g) (hH : HC X n h) (hI : Inv g) : K_X6_strike l ad [.ref 0, .int (a), .int (p)] X (fun rr X' => rr = rStr g a p ∧ CRc X' (okStr g a p) g (str g (cl a) (cl p)) n h ∧ fM X X') := by
  refine Ct.of [.ref 0, .int (a), .int (p), .null] 1 (by decide +kernel) rfl (Nat.le_of_ble_eq_true rfl) (fun F hl hC hRt _ => ?_)
  subst hl
  refine g_aload_0 hC dX6_strike_0 (pc' := 1) rfl ?_
  refine g_getR hC fl_X6_10 (sh_cs ad) rfl dX6_strike_1 (pc' := 4) rfl ?_
  refine g_iload_1 hC dX6_strike_4 (pc' := 5) rfl ?_
  refine g_iload_2 hC dX6_strike_5 (pc' := 6) rfl ?_
  refine g_callV2R hC (c_tBarS isB_1 hR hI) ml_X6_98 (sh_st ad isB_1) rfl ⟨(Nat.le_of_ble_eq_true rfl), (Nat.le_of_ble_eq_true rfl)⟩ (Nat.le_of_ble_eq_true rfl) dX6_strike_6 (pc' := 9) rfl ⟨Nat.zero_le _, Nat.zero_le _⟩ ?_
  refine g_istore_3 hC dX6_strike_9 (pc' := 10) rfl (Nat.le_of_ble_eq_true rfl) rfl ?_
  refine g_iload_3 hC dX6_strike_10 (pc' := 11) rfl ?_
  refine g_ifI_eq hC dX6_strike_11 (pc' := 14) (tgt := 16) (by decide) rfl (fun h11 => ?_) (fun h11 => ?_)
  · have hok := barS0.mp h11
    obtain ⟨f, q, rfl, rfl, hf, hq1, hq, hst⟩ := okStr_iff hok
    refine g_aload_0 hC dX6_strike_16 (pc' := 17) rfl ?_
    refine g_getR hC fl_X6_29 (sh_cs ad) rfl dX6_strike_17 (pc' := 20) rfl ?_
    refine g_aload_0 hC dX6_strike_20 (pc' := 21) rfl ?_
    refine g_getR hC fl_X6_10 (sh_cs ad) rfl dX6_strike_21 (pc' := 24) rfl ?_
    refine g_callV1V hC (c_hRecord hH hR) ml_X6_59 (sh_hist ad) rfl ⟨(Nat.le_of_ble_eq_true rfl), (Nat.le_of_ble_eq_true rfl)⟩ (Nat.le_of_ble_eq_true rfl) dX6_strike_24 (pc' := 27) rfl ⟨Nat.zero_le _, Nat.zero_le _⟩ (fun X24 q24 => ?_)
    obtain ⟨H24, f24⟩ := q24
    have R24 := hR.of (fun i h1 h2 _ => f24 i (by omega))
    refine g_aload_0 hC dX6_strike_27 (pc' := 28) rfl ?_
    refine g_getR hC fl_X6_10 (sh_cs ad) rfl dX6_strike_28 (pc' := 31) rfl ?_
    refine g_iload_1 hC dX6_strike_31 (pc' := 32) rfl ?_
    refine g_iload_2 hC dX6_strike_32 (pc' := 33) rfl ?_
    refine g_callV2I hC (c_tStroke isB_1 R24 hI (f := f) (p := q) (by omega) ⟨hq1, hq⟩) ml_X6_102 (sh_st ad isB_1) rfl ⟨(Nat.le_of_ble_eq_true rfl), (Nat.le_of_ble_eq_true rfl)⟩ (Nat.le_of_ble_eq_true rfl) dX6_strike_33 (pc' := 36) rfl ⟨Nat.zero_le _, Nat.zero_le _⟩ (fun v33 X33 q33 => ?_)
    obtain ⟨rfl, r33, f33⟩ := q33
    refine g_iretI hC hRt rfl dX6_strike_36 ?_
    refine ⟨?_, CRc_t hok (by rw [cl_nI (by omega), cl_nI (by omega)]; exact ⟨r33, H24.o (fun i hi => f33 i (by omega))⟩), (fM.h f24).tr (fM.o f33)⟩
    unfold rStr
    have e1 : inB (nI f) (nI 0) (nI 9) = true := by rw [inB_nI (by omega) (by decide) (by decide)]; simp; omega
    have e2 : inB (nI q) (nI 1) (nI 9) = true := by rw [inB_nI (by omega) (by decide) (by decide)]; simp; omega
    rw [e1, e2, if_pos rfl, if_pos rfl, if_pos hst, cl_nI (by omega), cl_nI (by omega)]
  · have hok : okStr g a p = false := by
      cases hz : okStr g a p with
      | false => rfl
      | true => exact absurd (barS0.mpr hz) h11
    refine g_iload_3 hC dX6_strike_14 (pc' := 15) rfl ?_
    refine g_iretI hC hRt rfl dX6_strike_15 ?_
    exact ⟨(rStr_bar hok).symm, CRc_f hok ⟨hR, hH⟩, fM.rf⟩

set_option maxHeartbeats 4000000 in
set_option maxRecDepth 100000 in
theorem k_tear {l : Launch} {ad : Nat → Nat} {X : gX} {a : Int32} {n : Nat} {h : Nat → Nat → Nat} {g : Nat → Nat} (hR : RS X 1 g) (hH : HC X n h) (hI : Inv g) : K_X6_tear l ad [.ref 0, .int (a)] X (fun rr X' => rr = rTear g a ∧ CRc X' (okTear g a) g (gTear g a) n h ∧ fM X X') := by
  refine Ct.of [.ref 0, .int (a), .null] 1 (by decide +kernel) rfl (Nat.le_of_ble_eq_true rfl) (fun F hl hC hRt _ => ?_)
  subst hl
  refine g_aload_0 hC dX6_tear_0 (pc' := 1) rfl ?_
  refine g_getR hC fl_X6_10 (sh_cs ad) rfl dX6_tear_1 (pc' := 4) rfl ?_
  refine g_iload_1 hC dX6_tear_4 (pc' := 5) rfl ?_
  refine g_callV1R hC (c_tBarT isB_1 hR hI) ml_X6_134 (sh_st ad isB_1) rfl ⟨(Nat.le_of_ble_eq_true rfl), (Nat.le_of_ble_eq_true rfl)⟩ (Nat.le_of_ble_eq_true rfl) dX6_tear_5 (pc' := 8) rfl ⟨Nat.zero_le _, Nat.zero_le _⟩ ?_
  refine g_istore_2 hC dX6_tear_8 (pc' := 9) rfl (Nat.le_of_ble_eq_true rfl) rfl ?_
  refine g_iload_2 hC dX6_tear_9 (pc' := 10) rfl ?_
  refine g_ifI_eq hC dX6_tear_10 (pc' := 13) (tgt := 15) (by decide) rfl (fun h10 => ?_) (fun h10 => ?_)
  · have hok := barT0.mp h10
    obtain ⟨d, rfl, hd, hst⟩ := okTear_iff hok
    refine g_aload_0 hC dX6_tear_15 (pc' := 16) rfl ?_
    refine g_getR hC fl_X6_29 (sh_cs ad) rfl dX6_tear_16 (pc' := 19) rfl ?_
    refine g_aload_0 hC dX6_tear_19 (pc' := 20) rfl ?_
    refine g_getR hC fl_X6_10 (sh_cs ad) rfl dX6_tear_20 (pc' := 23) rfl ?_
    refine g_callV1V hC (c_hRecord hH hR) ml_X6_59 (sh_hist ad) rfl ⟨(Nat.le_of_ble_eq_true rfl), (Nat.le_of_ble_eq_true rfl)⟩ (Nat.le_of_ble_eq_true rfl) dX6_tear_23 (pc' := 26) rfl ⟨Nat.zero_le _, Nat.zero_le _⟩ (fun X23 q23 => ?_)
    obtain ⟨H23, f23⟩ := q23
    have R23 := hR.of (fun i h1 h2 _ => f23 i (by omega))
    refine g_aload_0 hC dX6_tear_26 (pc' := 27) rfl ?_
    refine g_getR hC fl_X6_10 (sh_cs ad) rfl dX6_tear_27 (pc' := 30) rfl ?_
    refine g_iload_1 hC dX6_tear_30 (pc' := 31) rfl ?_
    refine g_callV1I hC (c_tTear isB_1 R23 hI hd hst) ml_X6_138 (sh_st ad isB_1) rfl ⟨(Nat.le_of_ble_eq_true rfl), (Nat.le_of_ble_eq_true rfl)⟩ (Nat.le_of_ble_eq_true rfl) dX6_tear_31 (pc' := 34) rfl ⟨Nat.zero_le _, Nat.zero_le _⟩ (fun v31 X31 q31 => ?_)
    obtain ⟨rfl, r31, f31⟩ := q31
    refine g_iretI hC hRt rfl dX6_tear_34 ?_
    refine ⟨?_, CRc_t hok ⟨r31, H23.o (fun i hi => f31 i (by omega))⟩, (fM.h f23).tr (fM.o f31)⟩
    unfold rTear
    have e1 : inB (nI d) (nI 0) (nI 1) = true := by rw [inB_nI (by omega) (by decide) (by decide)]; simp; omega
    rw [e1, if_pos rfl, if_pos hst, cl_nI (by omega)]
  · have hok : okTear g a = false := by
      cases hz : okTear g a with
      | false => rfl
      | true => exact absurd (barT0.mpr hz) h10
    refine g_iload_2 hC dX6_tear_13 (pc' := 14) rfl ?_
    refine g_iretI hC hRt rfl dX6_tear_14 ?_
    exact ⟨(rTear_bar hok).symm, CRc_f hok ⟨hR, hH⟩, fM.rf⟩

set_option maxHeartbeats 4000000 in
set_option maxRecDepth 100000 in
theorem k_paint {l : Launch} {ad : Nat → Nat} {X : gX} {a c : Int32} {n : Nat} {h : Nat → Nat → Nat} {g : Nat → Nat} (hR : RS X 1 g) (hH : HC X n h) (hI : Inv g) : K_X6_paint l ad [.ref 0, .int (a), .int (c)] X (fun rr X' => rr = rPaint g a c ∧ CRc X' (okPaint g a c) g (gPaint g a c) n h ∧ fM X X') := by
  refine Ct.of [.ref 0, .int (a), .int (c)] 0 (by decide +kernel) rfl (Nat.le_of_ble_eq_true rfl) (fun F hl hC hRt _ => ?_)
  subst hl
  have b23 : g 2 ≤ g 3 ∧ g 3 ≤ 5 := hI.1.2.2
  refine g_iload_1 hC dX6_paint_0 (pc' := 1) rfl ?_
  refine g_callS1R hC (c_iSheet) ml_X6_67 ⟨(Nat.le_of_ble_eq_true rfl), (Nat.le_of_ble_eq_true rfl)⟩ (Nat.le_of_ble_eq_true rfl) dX6_paint_1 (pc' := 4) rfl ⟨Nat.zero_le _, Nat.zero_le _⟩ ?_
  refine g_ifZ_eq hC dX6_paint_4 (pc' := 7) (tgt := 14) (by decide) rfl (fun h4 => ?_) (fun h4 => ?_)
  · refine g_iconst hC dX6_paint_14 (pc' := 15) kc_iconst_m1 rfl ?_
    refine g_iretI hC hRt rfl dX6_paint_15 ?_
    refine ⟨?_, CRc_f ?_ ⟨hR, hH⟩, fM.rf⟩
    · simp only [rPaint, okPaint, cl_nI, shut, h4, ↓reduceIte, Bool.false_eq_true, Bool.and_true, Bool.true_and, Bool.and_false, Bool.false_and, decide_true, decide_false, Bool.not_true, Bool.not_false]
    · simp only [okPaint, cl_nI, shut, h4, ↓reduceIte, Bool.false_eq_true, Bool.and_true, Bool.true_and, Bool.and_false, Bool.false_and, decide_true, decide_false, Bool.not_true, Bool.not_false]
  · obtain ⟨s, rfl, -, hs⟩ := inB_N (by decide) h4 (by decide)
    have cs : cl (nI s) = s := cl_nI (by omega)
    refine g_iload_2 hC dX6_paint_7 (pc' := 8) rfl ?_
    refine g_callS1R hC (c_iField) ml_X6_105 ⟨(Nat.le_of_ble_eq_true rfl), (Nat.le_of_ble_eq_true rfl)⟩ (Nat.le_of_ble_eq_true rfl) dX6_paint_8 (pc' := 11) rfl ⟨Nat.zero_le _, Nat.zero_le _⟩ ?_
    refine g_ifZ_ne hC dX6_paint_11 (pc' := 14) (tgt := 16) (by decide) rfl (fun h11 => ?_) (fun h11 => ?_)
    · obtain ⟨f, rfl, -, hf⟩ := inB_N (by decide) h11 (by decide)
      have cf : cl (nI f) = f := cl_nI (by omega)
      refine g_aload_0 hC dX6_paint_16 (pc' := 17) rfl ?_
      refine g_getR hC fl_X6_10 (sh_cs ad) rfl dX6_paint_17 (pc' := 20) rfl ?_
      refine g_iload_1 hC dX6_paint_20 (pc' := 21) rfl ?_
      refine g_callV1R hC (c_tIn isB_1 hR hI (s := s) (by omega)) ml_X6_85 (sh_st ad isB_1) rfl ⟨(Nat.le_of_ble_eq_true rfl), (Nat.le_of_ble_eq_true rfl)⟩ (Nat.le_of_ble_eq_true rfl) dX6_paint_21 (pc' := 24) rfl ⟨Nat.zero_le _, Nat.zero_le _⟩ ?_
      refine g_ifZ_eq hC dX6_paint_24 (pc' := 27) (tgt := 41) (by decide) rfl (fun h24 => ?_) (fun h24 => ?_)
      · refine g_aload_0 hC dX6_paint_41 (pc' := 42) rfl ?_
        refine g_getR hC fl_X6_29 (sh_cs ad) rfl dX6_paint_42 (pc' := 45) rfl ?_
        refine g_aload_0 hC dX6_paint_45 (pc' := 46) rfl ?_
        refine g_getR hC fl_X6_10 (sh_cs ad) rfl dX6_paint_46 (pc' := 49) rfl ?_
        refine g_callV1V hC (c_hRecord hH hR) ml_X6_59 (sh_hist ad) rfl ⟨(Nat.le_of_ble_eq_true rfl), (Nat.le_of_ble_eq_true rfl)⟩ (Nat.le_of_ble_eq_true rfl) dX6_paint_49 (pc' := 52) rfl ⟨Nat.zero_le _, Nat.zero_le _⟩ (fun X49 q49 => ?_)
        obtain ⟨H49, f49⟩ := q49
        have R49 := hR.of (fun i h1 h2 _ => f49 i (by omega))
        refine g_aload_0 hC dX6_paint_52 (pc' := 53) rfl ?_
        refine g_getR hC fl_X6_10 (sh_cs ad) rfl dX6_paint_53 (pc' := 56) rfl ?_
        refine g_iload_1 hC dX6_paint_56 (pc' := 57) rfl ?_
        refine g_iload_2 hC dX6_paint_57 (pc' := 58) rfl ?_
        refine g_callV2V hC (c_tNote isB_1 R49 hI (s := s) (f := f) (by omega) (by omega)) ml_X6_111 (sh_st ad isB_1) rfl ⟨(Nat.le_of_ble_eq_true rfl), (Nat.le_of_ble_eq_true rfl)⟩ (Nat.le_of_ble_eq_true rfl) dX6_paint_58 (pc' := 61) rfl ⟨Nat.zero_le _, Nat.zero_le _⟩ (fun X58 q58 => ?_)
        obtain ⟨r58, f58⟩ := q58
        refine g_aload_0 hC dX6_paint_61 (pc' := 62) rfl ?_
        refine g_getR hC fl_X6_10 (sh_cs ad) rfl dX6_paint_62 (pc' := 65) rfl ?_
        refine g_getR hC fl_X6_75 (sh_st ad isB_1) rfl dX6_paint_65 (pc' := 68) rfl ?_
        refine g_iload_1 hC dX6_paint_68 (pc' := 69) rfl ?_
        refine g_aald4 hC (sh_st1 ad isB_1) (Nat.le_of_ble_eq_true rfl) (by omega) (sheets_at (by omega)) dX6_paint_69 (pc' := 70) rfl ?_
        refine g_iload_2 hC dX6_paint_70 (pc' := 71) rfl ?_
        refine g_bipush hC dX6_paint_71 (pc' := 73) kc_bipush_9 rfl ?_
        refine g_callV2I hC (c_sStrike isB_1 (t := s) (f := f) (q := 9) (show s < 5 by omega) (r58.2.2 s (by omega)) (Inv_apt hI (by omega) (by omega)) (by omega) (by decide)) ml_X6_115 (sh_sheet ad isB_1 (by omega)) rfl ⟨(Nat.le_of_ble_eq_true rfl), (Nat.le_of_ble_eq_true rfl)⟩ (Nat.le_of_ble_eq_true rfl) dX6_paint_73 (pc' := 76) rfl ⟨Nat.zero_le _, Nat.zero_le _⟩ (fun v73 X73 q73 => ?_)
        obtain ⟨rfl, r73, f73⟩ := q73
        rw [apt_stt (by omega) (by omega)]
        have R73 : RS X73 1 (stk (apt g s f (inS g s)) s f 9) := r58.sheet (by omega) r73 (fun i _ _ h2 => f73 i h2) (fun j _ hj => stk_out (by omega) (by omega) (by rw [apt_cnt (by omega) (by omega) (by omega)]; exact hI.c (by omega) (by omega)) hj)
        refine g_iretI hC hRt rfl dX6_paint_76 ?_
        refine ⟨?_, CRc_t ?_ ?_, ((fM.h f49).tr (fM.o f58)).tr (fun i hi => f73 i (by omega))⟩
        · simp only [rPaint, okPaint, cl_nI, shut, h4, cs, h11, cf, h24, ↓reduceIte, Bool.false_eq_true, Bool.and_true, Bool.true_and, Bool.and_false, Bool.false_and, decide_true, decide_false, Bool.not_true, Bool.not_false]
        · simp only [okPaint, cl_nI, shut, h4, cs, h11, cf, h24, ↓reduceIte, Bool.false_eq_true, Bool.and_true, Bool.true_and, Bool.and_false, Bool.false_and, decide_true, decide_false, Bool.not_true, Bool.not_false]
        · rw [gPaint, cs, cf]
          exact ⟨R73, (H49.o (fun i hi => f58 i (by omega))).o (fun i hi => f73 i (by omega))⟩
      · refine g_iload_1 hC dX6_paint_27 (pc' := 28) rfl ?_
        refine g_aload_0 hC dX6_paint_28 (pc' := 29) rfl ?_
        refine g_getR hC fl_X6_10 (sh_cs ad) rfl dX6_paint_29 (pc' := 32) rfl ?_
        refine g_getI hC fl_X6_108 (sh_st ad isB_1) rfl (hR.2.1.1) dX6_paint_32 (pc' := 35) rfl ?_
        refine g_icmpN_eq hC dX6_paint_35 (pc' := 38) (tgt := 41) (by decide) rfl (by omega) (by omega) (fun h35 => ?_) (fun h35 => ?_)
        · refine g_aload_0 hC dX6_paint_41 (pc' := 42) rfl ?_
          refine g_getR hC fl_X6_29 (sh_cs ad) rfl dX6_paint_42 (pc' := 45) rfl ?_
          refine g_aload_0 hC dX6_paint_45 (pc' := 46) rfl ?_
          refine g_getR hC fl_X6_10 (sh_cs ad) rfl dX6_paint_46 (pc' := 49) rfl ?_
          refine g_callV1V hC (c_hRecord hH hR) ml_X6_59 (sh_hist ad) rfl ⟨(Nat.le_of_ble_eq_true rfl), (Nat.le_of_ble_eq_true rfl)⟩ (Nat.le_of_ble_eq_true rfl) dX6_paint_49 (pc' := 52) rfl ⟨Nat.zero_le _, Nat.zero_le _⟩ (fun X49 q49 => ?_)
          obtain ⟨H49, f49⟩ := q49
          have R49 := hR.of (fun i h1 h2 _ => f49 i (by omega))
          refine g_aload_0 hC dX6_paint_52 (pc' := 53) rfl ?_
          refine g_getR hC fl_X6_10 (sh_cs ad) rfl dX6_paint_53 (pc' := 56) rfl ?_
          refine g_iload_1 hC dX6_paint_56 (pc' := 57) rfl ?_
          refine g_iload_2 hC dX6_paint_57 (pc' := 58) rfl ?_
          refine g_callV2V hC (c_tNote isB_1 R49 hI (s := s) (f := f) (by omega) (by omega)) ml_X6_111 (sh_st ad isB_1) rfl ⟨(Nat.le_of_ble_eq_true rfl), (Nat.le_of_ble_eq_true rfl)⟩ (Nat.le_of_ble_eq_true rfl) dX6_paint_58 (pc' := 61) rfl ⟨Nat.zero_le _, Nat.zero_le _⟩ (fun X58 q58 => ?_)
          obtain ⟨r58, f58⟩ := q58
          refine g_aload_0 hC dX6_paint_61 (pc' := 62) rfl ?_
          refine g_getR hC fl_X6_10 (sh_cs ad) rfl dX6_paint_62 (pc' := 65) rfl ?_
          refine g_getR hC fl_X6_75 (sh_st ad isB_1) rfl dX6_paint_65 (pc' := 68) rfl ?_
          refine g_iload_1 hC dX6_paint_68 (pc' := 69) rfl ?_
          refine g_aald4 hC (sh_st1 ad isB_1) (Nat.le_of_ble_eq_true rfl) (by omega) (sheets_at (by omega)) dX6_paint_69 (pc' := 70) rfl ?_
          refine g_iload_2 hC dX6_paint_70 (pc' := 71) rfl ?_
          refine g_bipush hC dX6_paint_71 (pc' := 73) kc_bipush_9 rfl ?_
          refine g_callV2I hC (c_sStrike isB_1 (t := s) (f := f) (q := 9) (show s < 5 by omega) (r58.2.2 s (by omega)) (Inv_apt hI (by omega) (by omega)) (by omega) (by decide)) ml_X6_115 (sh_sheet ad isB_1 (by omega)) rfl ⟨(Nat.le_of_ble_eq_true rfl), (Nat.le_of_ble_eq_true rfl)⟩ (Nat.le_of_ble_eq_true rfl) dX6_paint_73 (pc' := 76) rfl ⟨Nat.zero_le _, Nat.zero_le _⟩ (fun v73 X73 q73 => ?_)
          obtain ⟨rfl, r73, f73⟩ := q73
          rw [apt_stt (by omega) (by omega)]
          have R73 : RS X73 1 (stk (apt g s f (inS g s)) s f 9) := r58.sheet (by omega) r73 (fun i _ _ h2 => f73 i h2) (fun j _ hj => stk_out (by omega) (by omega) (by rw [apt_cnt (by omega) (by omega) (by omega)]; exact hI.c (by omega) (by omega)) hj)
          refine g_iretI hC hRt rfl dX6_paint_76 ?_
          refine ⟨?_, CRc_t ?_ ?_, ((fM.h f49).tr (fM.o f58)).tr (fun i hi => f73 i (by omega))⟩
          · simp only [rPaint, okPaint, cl_nI, shut, h4, cs, h11, cf, h24, eq_true h35, ↓reduceIte, Bool.false_eq_true, Bool.and_true, Bool.true_and, Bool.and_false, Bool.false_and, decide_true, decide_false, Bool.not_true, Bool.not_false]
          · simp only [okPaint, cl_nI, shut, h4, cs, h11, cf, h24, eq_true h35, ↓reduceIte, Bool.false_eq_true, Bool.and_true, Bool.true_and, Bool.and_false, Bool.false_and, decide_true, decide_false, Bool.not_true, Bool.not_false]
          · rw [gPaint, cs, cf]
            exact ⟨R73, (H49.o (fun i hi => f58 i (by omega))).o (fun i hi => f73 i (by omega))⟩
        · refine g_bipush hC dX6_paint_38 (pc' := 40) kc_bipush_m5 rfl ?_
          refine g_iretI hC hRt rfl dX6_paint_40 ?_
          refine ⟨?_, CRc_f ?_ ⟨hR, hH⟩, fM.rf⟩
          · simp only [rPaint, okPaint, cl_nI, shut, h4, cs, h11, cf, h24, eq_false h35, ↓reduceIte, Bool.false_eq_true, Bool.and_true, Bool.true_and, Bool.and_false, Bool.false_and, decide_true, decide_false, Bool.not_true, Bool.not_false]
          · simp only [okPaint, cl_nI, shut, h4, cs, h11, cf, h24, eq_false h35, ↓reduceIte, Bool.false_eq_true, Bool.and_true, Bool.true_and, Bool.and_false, Bool.false_and, decide_true, decide_false, Bool.not_true, Bool.not_false]
    · refine g_iconst hC dX6_paint_14 (pc' := 15) kc_iconst_m1 rfl ?_
      refine g_iretI hC hRt rfl dX6_paint_15 ?_
      refine ⟨?_, CRc_f ?_ ⟨hR, hH⟩, fM.rf⟩
      · simp only [rPaint, okPaint, cl_nI, shut, h4, cs, h11, ↓reduceIte, Bool.false_eq_true, Bool.and_true, Bool.true_and, Bool.and_false, Bool.false_and, decide_true, decide_false, Bool.not_true, Bool.not_false]
      · simp only [okPaint, cl_nI, shut, h4, cs, h11, ↓reduceIte, Bool.false_eq_true, Bool.and_true, Bool.true_and, Bool.and_false, Bool.false_and, decide_true, decide_false, Bool.not_true, Bool.not_false]

set_option maxHeartbeats 4000000 in
set_option maxRecDepth 100000 in
theorem k_amend {l : Launch} {ad : Nat → Nat} {X : gX} {a c v p : Int32} {n : Nat} {h : Nat → Nat → Nat} {g : Nat → Nat} (hR : RS X 1 g) (hH : HC X n h) (hI : Inv g) : K_X6_amend l ad [.ref 0, .int (a), .int (c), .int (v), .int (p)] X (fun rr X' => rr = rAmend g a c v p ∧ CRc X' (okAmend g a c v p) g (gAmend g a c v p) n h ∧ fM X X') := by
  refine Ct.of [.ref 0, .int (a), .int (c), .int (v), .int (p)] 0 (by decide +kernel) rfl (Nat.le_of_ble_eq_true rfl) (fun F hl hC hRt _ => ?_)
  subst hl
  have b23 : g 2 ≤ g 3 ∧ g 3 ≤ 5 := hI.1.2.2
  refine g_iload_1 hC dX6_amend_0 (pc' := 1) rfl ?_
  refine g_callS1R hC (c_iSheet) ml_X6_67 ⟨(Nat.le_of_ble_eq_true rfl), (Nat.le_of_ble_eq_true rfl)⟩ (Nat.le_of_ble_eq_true rfl) dX6_amend_1 (pc' := 4) rfl ⟨Nat.zero_le _, Nat.zero_le _⟩ ?_
  refine g_ifZ_eq hC dX6_amend_4 (pc' := 7) (tgt := 14) (by decide) rfl (fun h4 => ?_) (fun h4 => ?_)
  · refine g_iconst hC dX6_amend_14 (pc' := 15) kc_iconst_m1 rfl ?_
    refine g_iretI hC hRt rfl dX6_amend_15 ?_
    refine ⟨?_, CRc_f ?_ ⟨hR, hH⟩, fM.rf⟩
    · simp only [rAmend, okAmend, cl_nI, h4, ↓reduceIte, Bool.false_eq_true, Bool.and_true, Bool.true_and, Bool.and_false, Bool.false_and, decide_true, decide_false, Bool.not_true, Bool.not_false]
    · simp only [okAmend, cl_nI, h4, ↓reduceIte, Bool.false_eq_true, Bool.and_true, Bool.true_and, Bool.and_false, Bool.false_and, decide_true, decide_false, Bool.not_true, Bool.not_false]
  · obtain ⟨s, rfl, -, hs⟩ := inB_N (by decide) h4 (by decide)
    have cs : cl (nI s) = s := cl_nI (by omega)
    refine g_iload_2 hC dX6_amend_7 (pc' := 8) rfl ?_
    refine g_callS1R hC (c_iField) ml_X6_105 ⟨(Nat.le_of_ble_eq_true rfl), (Nat.le_of_ble_eq_true rfl)⟩ (Nat.le_of_ble_eq_true rfl) dX6_amend_8 (pc' := 11) rfl ⟨Nat.zero_le _, Nat.zero_le _⟩ ?_
    refine g_ifZ_ne hC dX6_amend_11 (pc' := 14) (tgt := 16) (by decide) rfl (fun h11 => ?_) (fun h11 => ?_)
    · obtain ⟨f, rfl, -, hf⟩ := inB_N (by decide) h11 (by decide)
      have cf : cl (nI f) = f := cl_nI (by omega)
      have bc := hI.c (show s < 5 by omega) (show f < 10 by omega)
      refine g_iload_3 hC dX6_amend_16 (pc' := 17) rfl ?_
      refine g_callS1R hC (c_iValue) ml_X6_118 ⟨(Nat.le_of_ble_eq_true rfl), (Nat.le_of_ble_eq_true rfl)⟩ (Nat.le_of_ble_eq_true rfl) dX6_amend_17 (pc' := 20) rfl ⟨Nat.zero_le _, Nat.zero_le _⟩ ?_
      refine g_ifZ_eq hC dX6_amend_20 (pc' := 23) (tgt := 31) (by decide) rfl (fun h20 => ?_) (fun h20 => ?_)
      · refine g_bipush hC dX6_amend_31 (pc' := 33) kc_bipush_m2 rfl ?_
        refine g_iretI hC hRt rfl dX6_amend_33 ?_
        refine ⟨?_, CRc_f ?_ ⟨hR, hH⟩, fM.rf⟩
        · simp only [rAmend, okAmend, cl_nI, h4, cs, h11, cf, h20, ↓reduceIte, Bool.false_eq_true, Bool.and_true, Bool.true_and, Bool.and_false, Bool.false_and, decide_true, decide_false, Bool.not_true, Bool.not_false]
        · simp only [okAmend, cl_nI, h4, cs, h11, cf, h20, ↓reduceIte, Bool.false_eq_true, Bool.and_true, Bool.true_and, Bool.and_false, Bool.false_and, decide_true, decide_false, Bool.not_true, Bool.not_false]
      · obtain ⟨w, rfl, -, hw⟩ := inB_N (by decide) h20 (by decide)
        have cw : cl (nI w) = w := cl_nI (by omega)
        refine g_iload_4 hC dX6_amend_23 (pc' := 25) rfl ?_
        refine g_callS1R hC (c_iPress) ml_X6_121 ⟨(Nat.le_of_ble_eq_true rfl), (Nat.le_of_ble_eq_true rfl)⟩ (Nat.le_of_ble_eq_true rfl) dX6_amend_25 (pc' := 28) rfl ⟨Nat.zero_le _, Nat.zero_le _⟩ ?_
        refine g_ifZ_ne hC dX6_amend_28 (pc' := 31) (tgt := 34) (by decide) rfl (fun h28 => ?_) (fun h28 => ?_)
        · obtain ⟨q, rfl, hq1, hq⟩ := inB_N (by decide) h28 (by decide)
          have cq : cl (nI q) = q := cl_nI (by omega)
          refine g_aload_0 hC dX6_amend_34 (pc' := 35) rfl ?_
          refine g_getR hC fl_X6_10 (sh_cs ad) rfl dX6_amend_35 (pc' := 38) rfl ?_
          refine g_iload_1 hC dX6_amend_38 (pc' := 39) rfl ?_
          refine g_callV1R hC (c_tIn isB_1 hR hI (s := s) (by omega)) ml_X6_85 (sh_st ad isB_1) rfl ⟨(Nat.le_of_ble_eq_true rfl), (Nat.le_of_ble_eq_true rfl)⟩ (Nat.le_of_ble_eq_true rfl) dX6_amend_39 (pc' := 42) rfl ⟨Nat.zero_le _, Nat.zero_le _⟩ ?_
          refine g_ifZ_eq hC dX6_amend_42 (pc' := 45) (tgt := 48) (by decide) rfl (fun h42 => ?_) (fun h42 => ?_)
          · refine g_aload_0 hC dX6_amend_48 (pc' := 49) rfl ?_
            refine g_getR hC fl_X6_10 (sh_cs ad) rfl dX6_amend_49 (pc' := 52) rfl ?_
            refine g_getR hC fl_X6_75 (sh_st ad isB_1) rfl dX6_amend_52 (pc' := 55) rfl ?_
            refine g_iload_1 hC dX6_amend_55 (pc' := 56) rfl ?_
            refine g_aald4 hC (sh_st1 ad isB_1) (Nat.le_of_ble_eq_true rfl) (by omega) (sheets_at (by omega)) dX6_amend_56 (pc' := 57) rfl ?_
            refine g_iload_2 hC dX6_amend_57 (pc' := 58) rfl ?_
            refine g_callV1R hC (c_sRoom isB_1 (t := s) (by omega) (show f < 10 by omega) ((hR.2.2 s (by omega)).2.1 f (by omega)) bc) ml_X6_124 (sh_sheet ad isB_1 (by omega)) rfl ⟨(Nat.le_of_ble_eq_true rfl), (Nat.le_of_ble_eq_true rfl)⟩ (Nat.le_of_ble_eq_true rfl) dX6_amend_58 (pc' := 61) rfl ⟨Nat.zero_le _, Nat.zero_le _⟩ ?_
            refine g_ifZ_ne hC dX6_amend_61 (pc' := 64) (tgt := 67) (by decide) rfl (fun h61 => ?_) (fun h61 => ?_)
            · have hne : ¬ cnt g s f = 8 := by simp only [decide_eq_true_eq] at h61; omega
              refine g_aload_0 hC dX6_amend_67 (pc' := 68) rfl ?_
              refine g_getR hC fl_X6_29 (sh_cs ad) rfl dX6_amend_68 (pc' := 71) rfl ?_
              refine g_aload_0 hC dX6_amend_71 (pc' := 72) rfl ?_
              refine g_getR hC fl_X6_10 (sh_cs ad) rfl dX6_amend_72 (pc' := 75) rfl ?_
              refine g_callV1V hC (c_hRecord hH hR) ml_X6_59 (sh_hist ad) rfl ⟨(Nat.le_of_ble_eq_true rfl), (Nat.le_of_ble_eq_true rfl)⟩ (Nat.le_of_ble_eq_true rfl) dX6_amend_75 (pc' := 78) rfl ⟨Nat.zero_le _, Nat.zero_le _⟩ (fun X75 q75 => ?_)
              obtain ⟨H75, f75⟩ := q75
              have R75 := hR.of (fun i h1 h2 _ => f75 i (by omega))
              refine g_aload_0 hC dX6_amend_78 (pc' := 79) rfl ?_
              refine g_getR hC fl_X6_10 (sh_cs ad) rfl dX6_amend_79 (pc' := 82) rfl ?_
              refine g_iload_1 hC dX6_amend_82 (pc' := 83) rfl ?_
              refine g_iload_2 hC dX6_amend_83 (pc' := 84) rfl ?_
              refine g_callV2V hC (c_tNote isB_1 R75 hI (s := s) (f := f) (by omega) (by omega)) ml_X6_111 (sh_st ad isB_1) rfl ⟨(Nat.le_of_ble_eq_true rfl), (Nat.le_of_ble_eq_true rfl)⟩ (Nat.le_of_ble_eq_true rfl) dX6_amend_84 (pc' := 87) rfl ⟨Nat.zero_le _, Nat.zero_le _⟩ (fun X84 q84 => ?_)
              obtain ⟨r84, f84⟩ := q84
              rw [h42] at r84
              refine g_aload_0 hC dX6_amend_87 (pc' := 88) rfl ?_
              refine g_getR hC fl_X6_10 (sh_cs ad) rfl dX6_amend_88 (pc' := 91) rfl ?_
              refine g_getR hC fl_X6_75 (sh_st ad isB_1) rfl dX6_amend_91 (pc' := 94) rfl ?_
              refine g_iload_1 hC dX6_amend_94 (pc' := 95) rfl ?_
              refine g_aald4 hC (sh_st1 ad isB_1) (Nat.le_of_ble_eq_true rfl) (by omega) (sheets_at (by omega)) dX6_amend_95 (pc' := 96) rfl ?_
              refine g_iload_2 hC dX6_amend_96 (pc' := 97) rfl ?_
              refine g_iload_3 hC dX6_amend_97 (pc' := 98) rfl ?_
              refine g_iload_4 hC dX6_amend_98 (pc' := 100) rfl ?_
              refine g_callV3V hC (c_sAdd isB_1 (t := s) (f := f) (v := w) (p := q) (show s < 5 by omega) (r84.2.2 s (by omega)) (by omega) (by omega) (by omega) (by rw [apt_cnt (by omega) (by omega) (by omega)]; omega)) ml_X6_127 (sh_sheet ad isB_1 (by omega)) rfl ⟨(Nat.le_of_ble_eq_true rfl), (Nat.le_of_ble_eq_true rfl)⟩ (Nat.le_of_ble_eq_true rfl) dX6_amend_100 (pc' := 103) rfl ⟨Nat.zero_le _, Nat.zero_le _⟩ (fun X100 q100 => ?_)
              obtain ⟨r100, f100⟩ := q100
              have R100 : RS X100 1 (addm (apt g s f false) s f w q) := r84.sheet (by omega) r100 (fun i _ h1 h2 => f100 i h1 h2) (fun j _ hj => addm_out (by omega) (by rw [apt_cnt (by omega) (by omega) (by omega)]; omega) hj)
              have hc : cnt (addm (apt g s f false) s f w q) s f = cnt g s f + 1 := by rw [addm_cnt (by omega) (by omega) (by omega), if_pos ⟨rfl, rfl⟩, apt_cnt (by omega) (by omega) (by omega)]
              refine g_aload_0 hC dX6_amend_103 (pc' := 104) rfl ?_
              refine g_getR hC fl_X6_10 (sh_cs ad) rfl dX6_amend_104 (pc' := 107) rfl ?_
              refine g_getR hC fl_X6_75 (sh_st ad isB_1) rfl dX6_amend_107 (pc' := 110) rfl ?_
              refine g_iload_1 hC dX6_amend_110 (pc' := 111) rfl ?_
              refine g_aald4 hC (sh_st1 ad isB_1) (Nat.le_of_ble_eq_true rfl) (by omega) (sheets_at (by omega)) dX6_amend_111 (pc' := 112) rfl ?_
              refine g_getR hC fl_X6_131 (sh_sheet ad isB_1 (by omega)) rfl dX6_amend_112 (pc' := 115) rfl ?_
              refine g_iload_2 hC dX6_amend_115 (pc' := 116) rfl ?_
              refine g_iald hC (sh_counts ad isB_1 (by omega)) (Nat.le_of_ble_eq_true rfl) (by omega) (((R100.2.2 s (by omega)).2.1 f (by omega)).trans (congrArg nI hc)) dX6_amend_116 (pc' := 117) rfl ?_
              refine g_iretI hC hRt rfl dX6_amend_117 ?_
              refine ⟨?_, CRc_t ?_ ?_, ((fM.h f75).tr (fM.o f84)).tr (fun i hi => f100 i (by omega) (by omega))⟩
              · simp only [rAmend, okAmend, cl_nI, h4, cs, h11, cf, h20, cw, h28, cq, h42, h61, eq_false hne, ↓reduceIte, Bool.false_eq_true, Bool.and_true, Bool.true_and, Bool.and_false, Bool.false_and, decide_true, decide_false, Bool.not_true, Bool.not_false]
              · simp only [okAmend, cl_nI, h4, cs, h11, cf, h20, cw, h28, cq, h42, h61, eq_false hne, ↓reduceIte, Bool.false_eq_true, Bool.and_true, Bool.true_and, Bool.and_false, Bool.false_and, decide_true, decide_false, Bool.not_true, Bool.not_false]
              · rw [gAmend, cs, cf, cw, cq]
                exact ⟨R100, (H75.o (fun i hi => f84 i (by omega))).o (fun i hi => f100 i (by omega) (by omega))⟩
            · have hne : cnt g s f = 8 := by simp only [decide_eq_false_iff_not] at h61; omega
              refine g_bipush hC dX6_amend_64 (pc' := 66) kc_bipush_m4 rfl ?_
              refine g_iretI hC hRt rfl dX6_amend_66 ?_
              refine ⟨?_, CRc_f ?_ ⟨hR, hH⟩, fM.rf⟩
              · simp only [rAmend, okAmend, cl_nI, h4, cs, h11, cf, h20, cw, h28, cq, h42, h61, eq_true hne, ↓reduceIte, Bool.false_eq_true, Bool.and_true, Bool.true_and, Bool.and_false, Bool.false_and, decide_true, decide_false, Bool.not_true, Bool.not_false]
              · simp only [okAmend, cl_nI, h4, cs, h11, cf, h20, cw, h28, cq, h42, h61, eq_true hne, ↓reduceIte, Bool.false_eq_true, Bool.and_true, Bool.true_and, Bool.and_false, Bool.false_and, decide_true, decide_false, Bool.not_true, Bool.not_false]
          · refine g_bipush hC dX6_amend_45 (pc' := 47) kc_bipush_m5 rfl ?_
            refine g_iretI hC hRt rfl dX6_amend_47 ?_
            refine ⟨?_, CRc_f ?_ ⟨hR, hH⟩, fM.rf⟩
            · simp only [rAmend, okAmend, cl_nI, h4, cs, h11, cf, h20, cw, h28, cq, h42, ↓reduceIte, Bool.false_eq_true, Bool.and_true, Bool.true_and, Bool.and_false, Bool.false_and, decide_true, decide_false, Bool.not_true, Bool.not_false]
            · simp only [okAmend, cl_nI, h4, cs, h11, cf, h20, cw, h28, cq, h42, ↓reduceIte, Bool.false_eq_true, Bool.and_true, Bool.true_and, Bool.and_false, Bool.false_and, decide_true, decide_false, Bool.not_true, Bool.not_false]
        · refine g_bipush hC dX6_amend_31 (pc' := 33) kc_bipush_m2 rfl ?_
          refine g_iretI hC hRt rfl dX6_amend_33 ?_
          refine ⟨?_, CRc_f ?_ ⟨hR, hH⟩, fM.rf⟩
          · simp only [rAmend, okAmend, cl_nI, h4, cs, h11, cf, h20, cw, h28, ↓reduceIte, Bool.false_eq_true, Bool.and_true, Bool.true_and, Bool.and_false, Bool.false_and, decide_true, decide_false, Bool.not_true, Bool.not_false]
          · simp only [okAmend, cl_nI, h4, cs, h11, cf, h20, cw, h28, ↓reduceIte, Bool.false_eq_true, Bool.and_true, Bool.true_and, Bool.and_false, Bool.false_and, decide_true, decide_false, Bool.not_true, Bool.not_false]
    · refine g_iconst hC dX6_amend_14 (pc' := 15) kc_iconst_m1 rfl ?_
      refine g_iretI hC hRt rfl dX6_amend_15 ?_
      refine ⟨?_, CRc_f ?_ ⟨hR, hH⟩, fM.rf⟩
      · simp only [rAmend, okAmend, cl_nI, h4, cs, h11, ↓reduceIte, Bool.false_eq_true, Bool.and_true, Bool.true_and, Bool.and_false, Bool.false_and, decide_true, decide_false, Bool.not_true, Bool.not_false]
      · simp only [okAmend, cl_nI, h4, cs, h11, ↓reduceIte, Bool.false_eq_true, Bool.and_true, Bool.true_and, Bool.and_false, Bool.false_and, decide_true, decide_false, Bool.not_true, Bool.not_false]
