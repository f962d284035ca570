theorem rn_some {pad : Nat → Nat} {i : Nat} : ∀ {j : Nat}, i ≤ j → (∃ q, rn pad j = some q) → ∃ q, rn pad i = some q := by
  intro j
  induction j with
  | zero => intro h hq; rw [show i = 0 by omega]; exact hq
  | succ j ih =>
    rintro h ⟨q, hq⟩
    by_cases hz : i = j + 1
    · rw [hz]; exact ⟨q, hq⟩
    · refine ih (by omega) ?_
      cases hj : rn pad j with
      | some q2 => exact ⟨q2, rfl⟩
      | none =>
        have e : rn pad (j + 1) = (rn pad j).bind (fun q => stp q (pad j)) := rfl
        rw [hj] at e
        rw [hq] at e
        cases e
def fS1 (X X' : gX) : Prop := ∀ i, (i < 1 ∨ 20 ≤ i) → X' i = X i
theorem fS1.o {X Y : gX} (e : fO 1 X Y) : fS1 X Y := fun i a => e i (by omega)
theorem fS1.a {X Y : gX} (e : ∀ i, i ≠ 1 + 3 → Y i = X i) : fS1 X Y := fun i a => e i (by omega)
theorem fS1.tr {X Y W : gX} (h : fS1 X Y) (h2 : fS1 Y W) : fS1 X W := fun i a => (h2 i a).trans (h i a)
def CS (X : gX) (sv : Nat → Bool) (sg : Nat → Nat → Nat) : Prop := ∀ s, s < 2 → X 159 s = zI (sv s) ∧ (sv s = true → RS X (163 + 19 * s) (sg s))
theorem CS.of {X Y : gX} {sv : Nat → Bool} {sg : Nat → Nat → Nat} (h : CS X sv sg) (e9 : Y 159 = X 159) (e : ∀ i, 163 ≤ i → i < 201 → Y i = X i) : CS Y sv sg := fun s hs => ⟨by rw [e9]; exact (h s hs).1, fun hv => ((h s hs).2 hv).of (fun i a b _ => e i (by omega) (by omega))⟩
theorem cs_save {X Y : gX} {sv : Nat → Bool} {sg : Nat → Nat → Nat} {g : Nat → Nat} {s : Nat} (hs : s < 2) (h : CS X sv sg) (r : RS Y (163 + 19 * s) g) (f : fO (163 + 19 * s) X Y) : CS (gu Y 159 s (nI 1)) (updS sv true s true) (updS sg true s g) := fun t ht => by
  by_cases hz : t = s
  · subst hz
    refine ⟨?_, fun _ => ?_⟩
    · rw [gu_at]; simp [updS, zI_t]
    · have e : updS sg true t g t = g := by simp [updS]
      rw [e]
      exact r.of (fun i a b _ => gu_ne i (by omega))
  · have e1 : updS sv true s true t = sv t := by simp [updS, hz]
    have e2 : updS sg true s g t = sg t := by simp [updS, hz]
    rw [e1, e2]
    refine ⟨?_, fun hv => ?_⟩
    · rw [gu_id hz, f 159 (by omega)]; exact (h t ht).1
    · exact ((h t ht).2 hv).of (fun i a b _ => (gu_ne i (by omega)).trans (f i (by omega)))

set_option maxHeartbeats 4000000 in
set_option maxRecDepth 100000 in
theorem k_put {l : Launch} {ad : Nat → Nat} {X : gX} {C : Nat} (hCb : C < 18446744073709551616) {pad : Nat → Nat} {len : Nat} (hd : PC X pad len) : K_X6_put l ad [.ref 0, .long (lN (C))] X (fun rr X' => rr = rPut len (lN C) ∧ (if okPut len (lN C) = true then PC X' (padP pad len (lN C)) (len + szN C) else X' = X) ∧ ∀ i, i ≠ 160 → i ≠ 161 → X' i = X i) := by
  refine Ct.of [.ref 0, .long (lN (C)), .null, .null] 1 (by decide +kernel) rfl (Nat.le_of_ble_eq_true rfl) (fun F hl hC hRt _ => ?_)
  subst hl
  have hl80 := hd.2.1
  have hcN : cN (lN C) = C := wb_tn hCb
  have h8 := szN_le C
  refine g_lload_1 hC dX6_put_0 (pc' := 1) rfl ?_
  refine g_callS1R hC (c_sizeOf hCb) ml_X6_230 ⟨(Nat.le_of_ble_eq_true rfl), (Nat.le_of_ble_eq_true rfl)⟩ (Nat.le_of_ble_eq_true rfl) dX6_put_1 (pc' := 4) rfl ⟨Nat.zero_le _, Nat.zero_le _⟩ ?_
  refine g_istore_3 hC dX6_put_4 (pc' := 5) rfl (Nat.le_of_ble_eq_true rfl) rfl ?_
  refine g_iload_3 hC dX6_put_5 (pc' := 6) rfl ?_
  refine g_ifN_ne hC dX6_put_6 (pc' := 9) (tgt := 12) (by decide) rfl (by omega) (fun h6 => ?_) (fun h6 => ?_)
  · refine g_aload_0 hC dX6_put_12 (pc' := 13) rfl ?_
    refine g_getR hC fl_X6_44 (sh_cs ad) rfl dX6_put_13 (pc' := 16) rfl ?_
    refine g_getI hC fl_X6_205 (sh_cpad ad) rfl (hd.1) dX6_put_16 (pc' := 19) rfl ?_
    refine g_iload_3 hC dX6_put_19 (pc' := 20) rfl ?_
    refine g_iaddN hC dX6_put_20 (pc' := 21) rfl ?_
    refine g_bipush hC dX6_put_21 (pc' := 23) kc_bipush_80 rfl ?_
    refine g_icmpN_le hC dX6_put_23 (pc' := 26) (tgt := 29) (by decide) rfl (by omega) (by omega) (fun h23 => ?_) (fun h23 => ?_)
    · refine g_aload_0 hC dX6_put_29 (pc' := 30) rfl ?_
      refine g_getR hC fl_X6_44 (sh_cs ad) rfl dX6_put_30 (pc' := 33) rfl ?_
      refine g_lload_1 hC dX6_put_33 (pc' := 34) rfl ?_
      refine g_iload_3 hC dX6_put_34 (pc' := 35) rfl ?_
      refine g_callV2V hC (c_append hCb hd h6 (by omega)) ml_X6_234 (sh_cpad ad) rfl ⟨(Nat.le_of_ble_eq_true rfl), (Nat.le_of_ble_eq_true rfl)⟩ (Nat.le_of_ble_eq_true rfl) dX6_put_35 (pc' := 38) rfl ⟨Nat.zero_le _, Nat.zero_le _⟩ (fun X35 q35 => ?_)
      obtain ⟨d35, f35⟩ := q35
      refine g_aload_0 hC dX6_put_38 (pc' := 39) rfl ?_
      refine g_getR hC fl_X6_44 (sh_cs ad) rfl dX6_put_39 (pc' := 42) rfl ?_
      refine g_getI hC fl_X6_205 (sh_cpad ad) rfl (d35.1) dX6_put_42 (pc' := 45) rfl ?_
      refine g_iretI hC hRt rfl dX6_put_45 ?_
      exact ⟨by simp only [rPut, hcN]; rw [if_neg h6, if_pos (by omega)], by rw [if_pos (by simp [okPut, hcN, h6]; omega)]; exact d35, f35⟩
    · refine g_bipush hC dX6_put_26 (pc' := 28) kc_bipush_m4 rfl ?_
      refine g_iretI hC hRt rfl dX6_put_28 ?_
      exact ⟨by simp only [rPut, hcN]; rw [if_neg h6, if_neg (by omega)], by rw [if_neg (by simp [okPut, hcN]; omega)], fun _ _ _ => rfl⟩
  · refine g_bipush hC dX6_put_9 (pc' := 11) kc_bipush_m2 rfl ?_
    refine g_iretI hC hRt rfl dX6_put_11 ?_
    exact ⟨by simp [rPut, hcN, h6], by rw [if_neg (by simp [okPut, hcN, h6])], fun _ _ _ => rfl⟩

set_option maxHeartbeats 4000000 in
set_option maxRecDepth 100000 in
theorem k_wipe {l : Launch} {ad : Nat → Nat} {X : gX} {len : Nat} (hl : X 160 0 = nI len) : K_X6_wipe l ad [.ref 0] X (fun rr X' => rr = nI len ∧ X' = gu X 160 0 (nI 0)) := by
  refine Ct.of [.ref 0, .null] 1 (by decide +kernel) rfl (Nat.le_of_ble_eq_true rfl) (fun F hl hC hRt _ => ?_)
  subst hl
  refine g_aload_0 hC dX6_wipe_0 (pc' := 1) rfl ?_
  refine g_getR hC fl_X6_44 (sh_cs ad) rfl dX6_wipe_1 (pc' := 4) rfl ?_
  refine g_getI hC fl_X6_205 (sh_cpad ad) rfl (hl) dX6_wipe_4 (pc' := 7) rfl ?_
  refine g_istore_1 hC dX6_wipe_7 (pc' := 8) rfl (Nat.le_of_ble_eq_true rfl) rfl ?_
  refine g_aload_0 hC dX6_wipe_8 (pc' := 9) rfl ?_
  refine g_getR hC fl_X6_44 (sh_cs ad) rfl dX6_wipe_9 (pc' := 12) rfl ?_
  refine g_iconst hC dX6_wipe_12 (pc' := 13) kc_iconst_0 rfl ?_
  refine g_putI hC fl_X6_205 (sh_cpad ad) rfl rfl rfl dX6_wipe_13 (pc' := 16) rfl ?_
  refine g_iload_1 hC dX6_wipe_16 (pc' := 17) rfl ?_
  refine g_iretI hC hRt rfl dX6_wipe_17 ?_
  exact ⟨rfl, rfl⟩

set_option maxHeartbeats 4000000 in
set_option maxRecDepth 100000 in
theorem k_fault {l : Launch} {ad : Nat → Nat} {X : gX} {pad : Nat → Nat} {len : Nat} (hd : PC X pad len) : K_X6_fault l ad [.ref 0] X (fun rr X' => FT pad len rr ∧ ∀ i, i ≠ 162 → X' i = X i) := by
  refine Ct.of [.ref 0] 0 (by decide +kernel) rfl (Nat.le_of_ble_eq_true rfl) (fun F hl hC hRt _ => ?_)
  subst hl
  refine g_aload_0 hC dX6_fault_0 (pc' := 1) rfl ?_
  refine g_getR hC fl_X6_44 (sh_cs ad) rfl dX6_fault_1 (pc' := 4) rfl ?_
  refine g_aload_0 hC dX6_fault_4 (pc' := 5) rfl ?_
  refine g_getR hC fl_X6_51 (sh_cs ad) rfl dX6_fault_5 (pc' := 8) rfl ?_
  refine g_callV1I hC (c_firstFault hd) ml_X6_238 (sh_cpad ad) rfl ⟨(Nat.le_of_ble_eq_true rfl), (Nat.le_of_ble_eq_true rfl)⟩ (Nat.le_of_ble_eq_true rfl) dX6_fault_8 (pc' := 11) rfl ⟨Nat.zero_le _, Nat.zero_le _⟩ (fun v8 X8 q8 => ?_)
  refine g_iretI hC hRt rfl dX6_fault_11 ?_
  exact q8

set_option maxHeartbeats 4000000 in
set_option maxRecDepth 100000 in
theorem k_order119 {l : Launch} {ad : Nat → Nat} {X : gX} {g : Nat → Nat} {f v p : Nat} (hq : RO X (7, 119, f, v, p)) (hR : RS X 1 g) (hI : Inv g) : K_X6_carriesOutOrder l ad [.ref 0] X (fun rr X' => rr = zI (okO g 119 f v p) ∧ RS X' 1 (if okO g 119 f v p = true then gO g 119 f v p else g) ∧ fS1 X X') := by
  refine Ct.of [.ref 0, .null] 1 (by decide +kernel) rfl (Nat.le_of_ble_eq_true rfl) (fun F hl hC hRt _ => ?_)
  subst hl
  obtain ⟨qk, qe, q0, q1, q2, q3⟩ := hq
  dsimp only at qe q0 q1 q2 q3
  have r0 := q0 (by decide)
  have r1 := q1 (by decide) (by decide)
  have r3 := q3 rfl (by decide)
  have r2 := q2 (by decide) rfl
  have eo : okO g 119 f v p = okWrt g (nI f) (nI v) (nI p) := rfl
  have eg : gO g 119 f v p = wrt g (cl (nI f)) (cl (nI v)) (cl (nI p)) := rfl
  refine g_aload_0 hC dX6_carriesOutOrder_0 (pc' := 1) rfl ?_
  refine g_getR hC fl_X6_51 (sh_cs ad) rfl dX6_carriesOutOrder_1 (pc' := 4) rfl ?_
  refine g_getI hC fl_X6_269 (sh_reader ad) rfl (r0) dX6_carriesOutOrder_4 (pc' := 7) rfl ?_
  refine g_lookN hC dX6_carriesOutOrder_7 (by decide) (by decide) (off := 25) (by decide) (tgt := 32) (by decide) ?_
  refine g_aload_0 hC dX6_carriesOutOrder_32 (pc' := 33) rfl ?_
  refine g_getR hC fl_X6_10 (sh_cs ad) rfl dX6_carriesOutOrder_33 (pc' := 36) rfl ?_
  refine g_aload_0 hC dX6_carriesOutOrder_36 (pc' := 37) rfl ?_
  refine g_getR hC fl_X6_51 (sh_cs ad) rfl dX6_carriesOutOrder_37 (pc' := 40) rfl ?_
  refine g_getI hC fl_X6_272 (sh_reader ad) rfl (r1) dX6_carriesOutOrder_40 (pc' := 43) rfl ?_
  refine g_aload_0 hC dX6_carriesOutOrder_43 (pc' := 44) rfl ?_
  refine g_getR hC fl_X6_51 (sh_cs ad) rfl dX6_carriesOutOrder_44 (pc' := 47) rfl ?_
  refine g_getI hC fl_X6_275 (sh_reader ad) rfl (r2) dX6_carriesOutOrder_47 (pc' := 50) rfl ?_
  refine g_aload_0 hC dX6_carriesOutOrder_50 (pc' := 51) rfl ?_
  refine g_getR hC fl_X6_51 (sh_cs ad) rfl dX6_carriesOutOrder_51 (pc' := 54) rfl ?_
  refine g_getI hC fl_X6_278 (sh_reader ad) rfl (r3) dX6_carriesOutOrder_54 (pc' := 57) rfl ?_
  refine g_callV3I hC (c_tBarW isB_1 hR hI) ml_X6_91 (sh_st ad isB_1) rfl ⟨(Nat.le_of_ble_eq_true rfl), (Nat.le_of_ble_eq_true rfl)⟩ (Nat.le_of_ble_eq_true rfl) dX6_carriesOutOrder_57 (pc' := 60) rfl ⟨Nat.zero_le _, Nat.zero_le _⟩ (fun v57 X57 q57 => ?_)
  obtain ⟨rfl, fb⟩ := q57
  have hRb := hR.arr fb
  refine g_ifI_eq hC dX6_carriesOutOrder_60 (pc' := 63) (tgt := 65) (by decide) rfl (fun h60 => ?_) (fun h60 => ?_)
  · have hok := bar0.mp h60
    obtain ⟨f1, w1, p1, e1, e2, e3, hf, hw, hp1, hp2, hst, hfl, -⟩ := okWrt_iff hok
    refine g_aload_0 hC dX6_carriesOutOrder_65 (pc' := 66) rfl ?_
    refine g_getR hC fl_X6_10 (sh_cs ad) rfl dX6_carriesOutOrder_66 (pc' := 69) rfl ?_
    refine g_aload_0 hC dX6_carriesOutOrder_69 (pc' := 70) rfl ?_
    refine g_getR hC fl_X6_51 (sh_cs ad) rfl dX6_carriesOutOrder_70 (pc' := 73) rfl ?_
    refine g_getI hC fl_X6_272 (sh_reader ad) rfl ((congrFun (fb 162 (by omega)) 1).trans (r1.trans e1)) dX6_carriesOutOrder_73 (pc' := 76) rfl ?_
    refine g_aload_0 hC dX6_carriesOutOrder_76 (pc' := 77) rfl ?_
    refine g_getR hC fl_X6_51 (sh_cs ad) rfl dX6_carriesOutOrder_77 (pc' := 80) rfl ?_
    refine g_getI hC fl_X6_275 (sh_reader ad) rfl ((congrFun (fb 162 (by omega)) 2).trans (r2.trans e2)) dX6_carriesOutOrder_80 (pc' := 83) rfl ?_
    refine g_aload_0 hC dX6_carriesOutOrder_83 (pc' := 84) rfl ?_
    refine g_getR hC fl_X6_51 (sh_cs ad) rfl dX6_carriesOutOrder_84 (pc' := 87) rfl ?_
    refine g_getI hC fl_X6_278 (sh_reader ad) rfl ((congrFun (fb 162 (by omega)) 3).trans (r3.trans e3)) dX6_carriesOutOrder_87 (pc' := 90) rfl ?_
    refine g_callV3I hC (c_tPress isB_1 hRb hI (f := f1) (v := w1) (p := p1) (by omega) hw ⟨hp1, hp2⟩ hfl) ml_X6_95 (sh_st ad isB_1) rfl ⟨(Nat.le_of_ble_eq_true rfl), (Nat.le_of_ble_eq_true rfl)⟩ (Nat.le_of_ble_eq_true rfl) dX6_carriesOutOrder_90 (pc' := 93) rfl ⟨Nat.zero_le _, Nat.zero_le _⟩ (fun v90 X90 q90 => ?_)
    obtain ⟨rfl, r90, f90⟩ := q90
    refine g_pop hC dX6_carriesOutOrder_93 (pc' := 94) rfl rfl ?_
    refine g_iconst hC dX6_carriesOutOrder_94 (pc' := 95) kc_iconst_1 rfl ?_
    refine g_iretI hC hRt nz_1 dX6_carriesOutOrder_95 ?_
    rw [eo, hok, if_pos rfl, eg]
    exact ⟨rfl, (by rw [e1, e2, e3, cl_nI (by omega), cl_nI (by omega), cl_nI (by omega)]; exact r90), (fS1.a fb).tr (fS1.o f90)⟩
  · have hno : okWrt g (nI f) (nI v) (nI p) = false := by
      cases hz : okWrt g (nI f) (nI v) (nI p) with
      | false => rfl
      | true => exact absurd (bar0.mpr hz) h60
    refine g_iconst hC dX6_carriesOutOrder_63 (pc' := 64) kc_iconst_0 rfl ?_
    refine g_iretI hC hRt nz_0 dX6_carriesOutOrder_64 ?_
    rw [eo, hno]
    exact ⟨rfl, by rw [if_neg (by decide)]; exact hRb, fS1.a fb⟩

set_option maxHeartbeats 4000000 in
set_option maxRecDepth 100000 in
theorem k_order115 {l : Launch} {ad : Nat → Nat} {X : gX} {g : Nat → Nat} {f v p : Nat} (hq : RO X (7, 115, f, v, p)) (hR : RS X 1 g) (hI : Inv g) : K_X6_carriesOutOrder l ad [.ref 0] X (fun rr X' => rr = zI (okO g 115 f v p) ∧ RS X' 1 (if okO g 115 f v p = true then gO g 115 f v p else g) ∧ fS1 X X') := by
  refine Ct.of [.ref 0, .null] 1 (by decide +kernel) rfl (Nat.le_of_ble_eq_true rfl) (fun F hl hC hRt _ => ?_)
  subst hl
  obtain ⟨qk, qe, q0, q1, q2, q3⟩ := hq
  dsimp only at qe q0 q1 q2 q3
  have r0 := q0 (by decide)
  have r1 := q1 (by decide) (by decide)
  have r3 := q3 rfl (by decide)
  have eo : okO g 115 f v p = okStr g (nI f) (nI p) := rfl
  have eg : gO g 115 f v p = str g (cl (nI f)) (cl (nI p)) := rfl
  refine g_aload_0 hC dX6_carriesOutOrder_0 (pc' := 1) rfl ?_
  refine g_getR hC fl_X6_51 (sh_cs ad) rfl dX6_carriesOutOrder_1 (pc' := 4) rfl ?_
  refine g_getI hC fl_X6_269 (sh_reader ad) rfl (r0) dX6_carriesOutOrder_4 (pc' := 7) rfl ?_
  refine g_lookN hC dX6_carriesOutOrder_7 (by decide) (by decide) (off := 89) (by decide) (tgt := 96) (by decide) ?_
  refine g_aload_0 hC dX6_carriesOutOrder_96 (pc' := 97) rfl ?_
  refine g_getR hC fl_X6_10 (sh_cs ad) rfl dX6_carriesOutOrder_97 (pc' := 100) rfl ?_
  refine g_aload_0 hC dX6_carriesOutOrder_100 (pc' := 101) rfl ?_
  refine g_getR hC fl_X6_51 (sh_cs ad) rfl dX6_carriesOutOrder_101 (pc' := 104) rfl ?_
  refine g_getI hC fl_X6_272 (sh_reader ad) rfl (r1) dX6_carriesOutOrder_104 (pc' := 107) rfl ?_
  refine g_aload_0 hC dX6_carriesOutOrder_107 (pc' := 108) rfl ?_
  refine g_getR hC fl_X6_51 (sh_cs ad) rfl dX6_carriesOutOrder_108 (pc' := 111) rfl ?_
  refine g_getI hC fl_X6_278 (sh_reader ad) rfl (r3) dX6_carriesOutOrder_111 (pc' := 114) rfl ?_
  refine g_callV2R hC (c_tBarS isB_1 hR hI) ml_X6_98 (sh_st ad isB_1) rfl ⟨(Nat.le_of_ble_eq_true rfl), (Nat.le_of_ble_eq_true rfl)⟩ (Nat.le_of_ble_eq_true rfl) dX6_carriesOutOrder_114 (pc' := 117) rfl ⟨Nat.zero_le _, Nat.zero_le _⟩ ?_
  refine g_ifI_eq hC dX6_carriesOutOrder_117 (pc' := 120) (tgt := 122) (by decide) rfl (fun h117 => ?_) (fun h117 => ?_)
  · have hok := barS0.mp h117
    obtain ⟨f1, p1, e1, e3, hf, hp1, hp2, hst⟩ := okStr_iff hok
    refine g_aload_0 hC dX6_carriesOutOrder_122 (pc' := 123) rfl ?_
    refine g_getR hC fl_X6_10 (sh_cs ad) rfl dX6_carriesOutOrder_123 (pc' := 126) rfl ?_
    refine g_aload_0 hC dX6_carriesOutOrder_126 (pc' := 127) rfl ?_
    refine g_getR hC fl_X6_51 (sh_cs ad) rfl dX6_carriesOutOrder_127 (pc' := 130) rfl ?_
    refine g_getI hC fl_X6_272 (sh_reader ad) rfl (r1.trans e1) dX6_carriesOutOrder_130 (pc' := 133) rfl ?_
    refine g_aload_0 hC dX6_carriesOutOrder_133 (pc' := 134) rfl ?_
    refine g_getR hC fl_X6_51 (sh_cs ad) rfl dX6_carriesOutOrder_134 (pc' := 137) rfl ?_
    refine g_getI hC fl_X6_278 (sh_reader ad) rfl (r3.trans e3) dX6_carriesOutOrder_137 (pc' := 140) rfl ?_
    refine g_callV2I hC (c_tStroke isB_1 hR hI (f := f1) (p := p1) (by omega) ⟨hp1, hp2⟩) ml_X6_102 (sh_st ad isB_1) rfl ⟨(Nat.le_of_ble_eq_true rfl), (Nat.le_of_ble_eq_true rfl)⟩ (Nat.le_of_ble_eq_true rfl) dX6_carriesOutOrder_140 (pc' := 143) rfl ⟨Nat.zero_le _, Nat.zero_le _⟩ (fun v140 X140 q140 => ?_)
    obtain ⟨rfl, r140, f140⟩ := q140
    refine g_pop hC dX6_carriesOutOrder_143 (pc' := 144) rfl rfl ?_
    refine g_iconst hC dX6_carriesOutOrder_144 (pc' := 145) kc_iconst_1 rfl ?_
    refine g_iretI hC hRt nz_1 dX6_carriesOutOrder_145 ?_
    rw [eo, hok, if_pos rfl, eg]
    exact ⟨rfl, (by rw [e1, e3, cl_nI (by omega), cl_nI (by omega)]; exact r140), fS1.o f140⟩
  · have hno : okStr g (nI f) (nI p) = false := by
      cases hz : okStr g (nI f) (nI p) with
      | false => rfl
      | true => exact absurd (barS0.mpr hz) h117
    refine g_iconst hC dX6_carriesOutOrder_120 (pc' := 121) kc_iconst_0 rfl ?_
    refine g_iretI hC hRt nz_0 dX6_carriesOutOrder_121 ?_
    rw [eo, hno]
    exact ⟨rfl, by rw [if_neg (by decide)]; exact hR, fun _ _ => rfl⟩

set_option maxHeartbeats 4000000 in
set_option maxRecDepth 100000 in
theorem k_order116 {l : Launch} {ad : Nat → Nat} {X : gX} {g : Nat → Nat} {f v p : Nat} (hq : RO X (7, 116, f, v, p)) (hR : RS X 1 g) (hI : Inv g) : K_X6_carriesOutOrder l ad [.ref 0] X (fun rr X' => rr = zI (okO g 116 f v p) ∧ RS X' 1 (if okO g 116 f v p = true then gO g 116 f v p else g) ∧ fS1 X X') := by
  refine Ct.of [.ref 0, .null] 1 (by decide +kernel) rfl (Nat.le_of_ble_eq_true rfl) (fun F hl hC hRt _ => ?_)
  subst hl
  obtain ⟨qk, qe, q0, q1, q2, q3⟩ := hq
  dsimp only at qe q0 q1 q2 q3
  have r0 := q0 (by decide)
  have eo : okO g 116 f v p = okTear g (nI 0) := rfl
  have eg : gO g 116 f v p = gTear g (nI 0) := rfl
  refine g_aload_0 hC dX6_carriesOutOrder_0 (pc' := 1) rfl ?_
  refine g_getR hC fl_X6_51 (sh_cs ad) rfl dX6_carriesOutOrder_1 (pc' := 4) rfl ?_
  refine g_getI hC fl_X6_269 (sh_reader ad) rfl (r0) dX6_carriesOutOrder_4 (pc' := 7) rfl ?_
  refine g_lookN hC dX6_carriesOutOrder_7 (by decide) (by decide) (off := 139) (by decide) (tgt := 146) (by decide) ?_
  refine g_aload_0 hC dX6_carriesOutOrder_146 (pc' := 147) rfl ?_
  refine g_getR hC fl_X6_51 (sh_cs ad) rfl dX6_carriesOutOrder_147 (pc' := 150) rfl ?_
  refine g_getI hC fl_X6_269 (sh_reader ad) rfl (r0) dX6_carriesOutOrder_150 (pc' := 153) rfl ?_
  refine g_bipush hC dX6_carriesOutOrder_153 (pc' := 155) kc_bipush_116 rfl ?_
  refine g_icmpN_ne hC dX6_carriesOutOrder_155 (pc' := 158) (tgt := 162) (by decide) rfl (by omega) (by omega) (fun h155 => by omega) (fun h155 => ?_)
  refine g_iconst hC dX6_carriesOutOrder_158 (pc' := 159) kc_iconst_0 rfl ?_
  refine g_goto hC dX6_carriesOutOrder_159 (tgt := 163) (by decide) ?_
  refine g_istore_1 hC dX6_carriesOutOrder_163 (pc' := 164) rfl (Nat.le_of_ble_eq_true rfl) rfl ?_
  refine g_aload_0 hC dX6_carriesOutOrder_164 (pc' := 165) rfl ?_
  refine g_getR hC fl_X6_10 (sh_cs ad) rfl dX6_carriesOutOrder_165 (pc' := 168) rfl ?_
  refine g_iload_1 hC dX6_carriesOutOrder_168 (pc' := 169) rfl ?_
  refine g_callV1R hC (c_tBarT isB_1 hR hI) ml_X6_134 (sh_st ad isB_1) rfl ⟨(Nat.le_of_ble_eq_true rfl), (Nat.le_of_ble_eq_true rfl)⟩ (Nat.le_of_ble_eq_true rfl) dX6_carriesOutOrder_169 (pc' := 172) rfl ⟨Nat.zero_le _, Nat.zero_le _⟩ ?_
  refine g_ifI_eq hC dX6_carriesOutOrder_172 (pc' := 175) (tgt := 177) (by decide) rfl (fun h172 => ?_) (fun h172 => ?_)
  · have hok := barT0.mp h172
    have hst : g 2 < g 3 := by obtain ⟨-, -, -, z⟩ := okTear_iff hok; exact z
    refine g_aload_0 hC dX6_carriesOutOrder_177 (pc' := 178) rfl ?_
    refine g_getR hC fl_X6_10 (sh_cs ad) rfl dX6_carriesOutOrder_178 (pc' := 181) rfl ?_
    refine g_iload_1 hC dX6_carriesOutOrder_181 (pc' := 182) rfl ?_
    refine g_callV1I hC (c_tTear isB_1 hR hI (d := 0) (by decide) hst) ml_X6_138 (sh_st ad isB_1) rfl ⟨(Nat.le_of_ble_eq_true rfl), (Nat.le_of_ble_eq_true rfl)⟩ (Nat.le_of_ble_eq_true rfl) dX6_carriesOutOrder_182 (pc' := 185) rfl ⟨Nat.zero_le _, Nat.zero_le _⟩ (fun v182 X182 q182 => ?_)
    obtain ⟨rfl, r182, f182⟩ := q182
    refine g_pop hC dX6_carriesOutOrder_185 (pc' := 186) rfl rfl ?_
    refine g_iconst hC dX6_carriesOutOrder_186 (pc' := 187) kc_iconst_1 rfl ?_
    refine g_iretI hC hRt nz_1 dX6_carriesOutOrder_187 ?_
    rw [eo, hok, if_pos rfl, eg]
    exact ⟨rfl, r182, fS1.o f182⟩
  · have hno : okTear g (nI 0) = false := by
      cases hz : okTear g (nI 0) with
      | false => rfl
      | true => exact absurd (barT0.mpr hz) h172
    refine g_iconst hC dX6_carriesOutOrder_175 (pc' := 176) kc_iconst_0 rfl ?_
    refine g_iretI hC hRt nz_0 dX6_carriesOutOrder_176 ?_
    rw [eo, hno]
    exact ⟨rfl, by rw [if_neg (by decide)]; exact hR, fun _ _ => rfl⟩

set_option maxHeartbeats 4000000 in
set_option maxRecDepth 100000 in
theorem k_order98 {l : Launch} {ad : Nat → Nat} {X : gX} {g : Nat → Nat} {f v p : Nat} (hq : RO X (7, 98, f, v, p)) (hR : RS X 1 g) (hI : Inv g) : K_X6_carriesOutOrder l ad [.ref 0] X (fun rr X' => rr = zI (okO g 98 f v p) ∧ RS X' 1 (if okO g 98 f v p = true then gO g 98 f v p else g) ∧ fS1 X X') := by
  refine Ct.of [.ref 0, .null] 1 (by decide +kernel) rfl (Nat.le_of_ble_eq_true rfl) (fun F hl hC hRt _ => ?_)
  subst hl
  obtain ⟨qk, qe, q0, q1, q2, q3⟩ := hq
  dsimp only at qe q0 q1 q2 q3
  have r0 := q0 (by decide)
  have eo : okO g 98 f v p = okTear g (nI 1) := rfl
  have eg : gO g 98 f v p = gTear g (nI 1) := rfl
  refine g_aload_0 hC dX6_carriesOutOrder_0 (pc' := 1) rfl ?_
  refine g_getR hC fl_X6_51 (sh_cs ad) rfl dX6_carriesOutOrder_1 (pc' := 4) rfl ?_
  refine g_getI hC fl_X6_269 (sh_reader ad) rfl (r0) dX6_carriesOutOrder_4 (pc' := 7) rfl ?_
  refine g_lookN hC dX6_carriesOutOrder_7 (by decide) (by decide) (off := 139) (by decide) (tgt := 146) (by decide) ?_
  refine g_aload_0 hC dX6_carriesOutOrder_146 (pc' := 147) rfl ?_
  refine g_getR hC fl_X6_51 (sh_cs ad) rfl dX6_carriesOutOrder_147 (pc' := 150) rfl ?_
  refine g_getI hC fl_X6_269 (sh_reader ad) rfl (r0) dX6_carriesOutOrder_150 (pc' := 153) rfl ?_
  refine g_bipush hC dX6_carriesOutOrder_153 (pc' := 155) kc_bipush_116 rfl ?_
  refine g_icmpN_ne hC dX6_carriesOutOrder_155 (pc' := 158) (tgt := 162) (by decide) rfl (by omega) (by omega) (fun h155 => ?_) (fun h155 => by omega)
  refine g_iconst hC dX6_carriesOutOrder_162 (pc' := 163) kc_iconst_1 rfl ?_
  refine g_istore_1 hC dX6_carriesOutOrder_163 (pc' := 164) rfl (Nat.le_of_ble_eq_true rfl) rfl ?_
  refine g_aload_0 hC dX6_carriesOutOrder_164 (pc' := 165) rfl ?_
  refine g_getR hC fl_X6_10 (sh_cs ad) rfl dX6_carriesOutOrder_165 (pc' := 168) rfl ?_
  refine g_iload_1 hC dX6_carriesOutOrder_168 (pc' := 169) rfl ?_
  refine g_callV1R hC (c_tBarT isB_1 hR hI) ml_X6_134 (sh_st ad isB_1) rfl ⟨(Nat.le_of_ble_eq_true rfl), (Nat.le_of_ble_eq_true rfl)⟩ (Nat.le_of_ble_eq_true rfl) dX6_carriesOutOrder_169 (pc' := 172) rfl ⟨Nat.zero_le _, Nat.zero_le _⟩ ?_
  refine g_ifI_eq hC dX6_carriesOutOrder_172 (pc' := 175) (tgt := 177) (by decide) rfl (fun h172 => ?_) (fun h172 => ?_)
  · have hok := barT0.mp h172
    have hst : g 2 < g 3 := by obtain ⟨-, -, -, z⟩ := okTear_iff hok; exact z
    refine g_aload_0 hC dX6_carriesOutOrder_177 (pc' := 178) rfl ?_
    refine g_getR hC fl_X6_10 (sh_cs ad) rfl dX6_carriesOutOrder_178 (pc' := 181) rfl ?_
    refine g_iload_1 hC dX6_carriesOutOrder_181 (pc' := 182) rfl ?_
    refine g_callV1I hC (c_tTear isB_1 hR hI (d := 1) (by decide) hst) ml_X6_138 (sh_st ad isB_1) rfl ⟨(Nat.le_of_ble_eq_true rfl), (Nat.le_of_ble_eq_true rfl)⟩ (Nat.le_of_ble_eq_true rfl) dX6_carriesOutOrder_182 (pc' := 185) rfl ⟨Nat.zero_le _, Nat.zero_le _⟩ (fun v182 X182 q182 => ?_)
    obtain ⟨rfl, r182, f182⟩ := q182
    refine g_pop hC dX6_carriesOutOrder_185 (pc' := 186) rfl rfl ?_
    refine g_iconst hC dX6_carriesOutOrder_186 (pc' := 187) kc_iconst_1 rfl ?_
    refine g_iretI hC hRt nz_1 dX6_carriesOutOrder_187 ?_
    rw [eo, hok, if_pos rfl, eg]
    exact ⟨rfl, r182, fS1.o f182⟩
  · have hno : okTear g (nI 1) = false := by
      cases hz : okTear g (nI 1) with
      | false => rfl
      | true => exact absurd (barT0.mpr hz) h172
    refine g_iconst hC dX6_carriesOutOrder_175 (pc' := 176) kc_iconst_0 rfl ?_
    refine g_iretI hC hRt nz_0 dX6_carriesOutOrder_176 ?_
    rw [eo, hno]
    exact ⟨rfl, by rw [if_neg (by decide)]; exact hR, fun _ _ => rfl⟩

theorem k_order {l : Launch} {ad : Nat → Nat} {X : gX} {g : Nat → Nat} {k f v p : Nat} (hq : RO X (7, k, f, v, p)) (hR : RS X 1 g) (hI : Inv g) : K_X6_carriesOutOrder l ad [.ref 0] X (fun rr X' => rr = zI (okO g k f v p) ∧ RS X' 1 (if okO g k f v p = true then gO g k f v p else g) ∧ fS1 X X') := by
  have h := hq.1.2.1 (show 1 ≤ 7 by decide)
  dsimp only at h
  rcases h with rfl | rfl | ⟨-, rfl | rfl⟩
  · exact k_order119 hq hR hI
  · exact k_order115 hq hR hI
  · exact k_order116 hq hR hI
  · exact k_order98 hq hR hI

set_option maxHeartbeats 4000000 in
set_option maxRecDepth 100000 in
theorem k_carryPad {l : Launch} {ad : Nat → Nat} {X : gX} {pad : Nat → Nat} {len : Nat} {g : Nat → Nat} (hd : PC X pad len) (hR : RS X 1 g) (hI : Inv g) (h7 : is7 pad len = true) : K_X6_carryOutThePad l ad [.ref 0] X (fun rr X' => rr = nI (cst pad g len).2.1 ∧ RS X' 1 (cst pad g len).1 ∧ ∀ i, (i < 1 ∨ 20 ≤ i) → i ≠ 162 → X' i = X i) := by
  refine Ct.of [.ref 0, .null, .null] 2 (by decide +kernel) rfl (Nat.le_of_ble_eq_true rfl) (fun F hl hC hRt _ => ?_)
  subst hl
  have hl80 := hd.2.1
  refine g_iconst hC dX6_carryOutThePad_0 (pc' := 1) kc_iconst_0 rfl ?_
  refine g_istore_1 hC dX6_carryOutThePad_1 (pc' := 2) rfl (Nat.le_of_ble_eq_true rfl) rfl ?_
  refine g_aload_0 hC dX6_carryOutThePad_2 (pc' := 3) rfl ?_
  refine g_getR hC fl_X6_51 (sh_cs ad) rfl dX6_carryOutThePad_3 (pc' := 6) rfl ?_
  refine g_callV0V hC (c_begin) ml_X6_252 (sh_reader ad) rfl ⟨(Nat.le_of_ble_eq_true rfl), (Nat.le_of_ble_eq_true rfl)⟩ (Nat.le_of_ble_eq_true rfl) dX6_carryOutThePad_6 (pc' := 9) rfl ⟨Nat.zero_le _, Nat.zero_le _⟩ (fun X6 q6 => ?_)
  have hb := q6
  refine g_iconst hC dX6_carryOutThePad_9 (pc' := 10) kc_iconst_0 rfl ?_
  refine g_istore_2 hC dX6_carryOutThePad_10 (pc' := 11) rfl (Nat.le_of_ble_eq_true rfl) rfl ?_
  have L11 : ∀ i, i ≤ len → ∀ X1 : gX, ((∀ i, (i < 1 ∨ 20 ≤ i) → i ≠ 162 → X1 i = X i) ∧ (∃ q, RO X1 q ∧ rn pad i = some q) ∧ RS X1 1 (cst pad g i).1 ∧ (cst pad g i).2.2 = false) → G F (S0 ad) (0, 0) X1 11 [.ref 0, .int (nI ((cst pad g i).2.1)), .int (nI i)] [] := by
    refine up_ind _ (fun i hk11 ih11 => ?_)
    intro X1 hm11
    obtain ⟨q, hq, hrn⟩ := hm11.2.1
    refine g_iload_2 hC dX6_carryOutThePad_11 (pc' := 12) rfl ?_
    refine g_aload_0 hC dX6_carryOutThePad_12 (pc' := 13) rfl ?_
    refine g_getR hC fl_X6_44 (sh_cs ad) rfl dX6_carryOutThePad_13 (pc' := 16) rfl ?_
    refine g_getI hC fl_X6_205 (sh_cpad ad) rfl ((congrFun (hm11.1 160 (by omega) (by decide)) 0).trans hd.1) dX6_carryOutThePad_16 (pc' := 19) rfl ?_
    refine g_icmpN_ge hC dX6_carryOutThePad_19 (pc' := 22) (tgt := 67) (by decide) rfl (by omega) (by omega) (fun h19 => ?_) (fun h19 => ?_)
    · refine g_iload_1 hC dX6_carryOutThePad_67 (pc' := 68) rfl ?_
      refine g_iretI hC hRt rfl dX6_carryOutThePad_68 ?_
      rw [show i = len by omega] at hm11 ⊢
      exact ⟨rfl, hm11.2.2.1, hm11.1⟩
    · refine g_aload_0 hC dX6_carryOutThePad_22 (pc' := 23) rfl ?_
      refine g_getR hC fl_X6_51 (sh_cs ad) rfl dX6_carryOutThePad_23 (pc' := 26) rfl ?_
      refine g_aload_0 hC dX6_carryOutThePad_26 (pc' := 27) rfl ?_
      refine g_getR hC fl_X6_44 (sh_cs ad) rfl dX6_carryOutThePad_27 (pc' := 30) rfl ?_
      refine g_getR hC fl_X6_255 (sh_cpad ad) rfl dX6_carryOutThePad_30 (pc' := 33) rfl ?_
      refine g_iload_2 hC dX6_carryOutThePad_33 (pc' := 34) rfl ?_
      refine g_cald hC (sh_codes ad) (Nat.le_of_ble_eq_true rfl) (by omega) ((congrFun (hm11.1 161 (by omega) (by decide)) i).trans (hd.2.2 i (by omega)).1) dX6_carryOutThePad_34 (pc' := 35) rfl ?_
      refine g_callV1I hC (c_takes hq (hd.2.2 i (by omega)).2.2) ml_X6_259 (sh_reader ad) rfl ⟨(Nat.le_of_ble_eq_true rfl), (Nat.le_of_ble_eq_true rfl)⟩ (Nat.le_of_ble_eq_true rfl) dX6_carryOutThePad_35 (pc' := 38) rfl ⟨Nat.zero_le _, Nat.zero_le _⟩ (fun v35 X35 q35 => ?_)
      obtain ⟨b35, rfl⟩ := q35.b
      obtain ⟨t35, f35⟩ := q35
      obtain ⟨q2, hs2, hq2⟩ : ∃ q2, stp q (pad i) = some q2 ∧ RO X35 q2 := by
        rcases t35 with ⟨q2, t, -, t2⟩ | ⟨t, -⟩
        · exact ⟨q2, t, t2⟩
        · exfalso
          obtain ⟨qz, hz⟩ := rn_some (i := i + 1) (show i + 1 ≤ len by omega) (by obtain ⟨w, hw, -⟩ := is7_q h7; exact ⟨w, hw⟩)
          rw [rn_s hrn, t] at hz
          cases hz
      have hr2 := (rn_s hrn).trans hs2
      have R35 := hm11.2.2.1.of (fun j h1 h2 _ => f35 j (by omega))
      refine g_pop hC dX6_carryOutThePad_38 (pc' := 39) rfl rfl ?_
      refine g_aload_0 hC dX6_carryOutThePad_39 (pc' := 40) rfl ?_
      refine g_getR hC fl_X6_51 (sh_cs ad) rfl dX6_carryOutThePad_40 (pc' := 43) rfl ?_
      refine g_callV0R hC (c_isAfter hq2) ml_X6_263 (sh_reader ad) rfl ⟨(Nat.le_of_ble_eq_true rfl), (Nat.le_of_ble_eq_true rfl)⟩ (Nat.le_of_ble_eq_true rfl) dX6_carryOutThePad_43 (pc' := 46) rfl ⟨Nat.zero_le _, Nat.zero_le _⟩ ?_
      refine g_ifZ_eq hC dX6_carryOutThePad_46 (pc' := 49) (tgt := 61) (by decide) rfl (fun h46 => ?_) (fun h46 => ?_)
      · have hn7 : is7 pad (i + 1) = false := is7_f (fun q hq => by rw [hr2] at hq; cases hq; exact of_decide_eq_false h46)
        have ec := cst_n (g := g) hn7
        refine g_iinc_2 hC dX6_carryOutThePad_61 (pc' := 64) rfl (Nat.le_of_ble_eq_true rfl) rfl (nI_inc _ _ kc_iinc_1) ?_
        refine g_goto hC dX6_carryOutThePad_64 (tgt := 11) (by decide) ?_
        exact g_weak (ih11 (by omega) _ (by first | exact ⟨fun j h1 h2 => (f50 j h1).trans ((f35 j h2).trans (hm11.1 j h1 h2)), ⟨_, hq2.of (f50 162 (by omega)), hr2⟩, by rw [ec]; exact r50, by rw [ec]⟩ | exact ⟨fun j h1 h2 => (f35 j h2).trans (hm11.1 j h1 h2), ⟨_, hq2, hr2⟩, by rw [ec]; exact R35, by rw [ec]; exact hm11.2.2.2⟩)) (gle_s (gle_i (by rw [ec]) (gle_i (by first | rfl | omega) gle_nil)))
      · have h7q := of_decide_eq_true h46
        obtain ⟨e, k, f, v, p⟩ := q2
        have h7q : e = 7 := h7q
        subst h7q
        refine g_aload_0 hC dX6_carryOutThePad_49 (pc' := 50) rfl ?_
        refine g_callV0I hC (k_order hq2 R35 (Inv_cst hI i)) ml_X6_266 (sh_cs ad) rfl ⟨(Nat.le_of_ble_eq_true rfl), (Nat.le_of_ble_eq_true rfl)⟩ (Nat.le_of_ble_eq_true rfl) dX6_carryOutThePad_50 (pc' := 53) rfl ⟨Nat.zero_le _, Nat.zero_le _⟩ (fun v50 X50 q50 => ?_)
        obtain ⟨rfl, r50, f50⟩ := q50
        have ec := cst_o (g := g) hm11.2.2.2 hr2
        refine g_ifZ_ne hC dX6_carryOutThePad_53 (pc' := 56) (tgt := 58) (by decide) rfl (fun h53 => ?_) (fun h53 => ?_)
        · rw [if_pos h53] at ec r50
          refine g_iinc_1 hC dX6_carryOutThePad_58 (pc' := 61) rfl (Nat.le_of_ble_eq_true rfl) rfl (nI_inc _ _ kc_iinc_1) ?_
          refine g_iinc_2 hC dX6_carryOutThePad_61 (pc' := 64) rfl (Nat.le_of_ble_eq_true rfl) rfl (nI_inc _ _ kc_iinc_1) ?_
          refine g_goto hC dX6_carryOutThePad_64 (tgt := 11) (by decide) ?_
          exact g_weak (ih11 (by omega) _ (by first | exact ⟨fun j h1 h2 => (f50 j h1).trans ((f35 j h2).trans (hm11.1 j h1 h2)), ⟨_, hq2.of (f50 162 (by omega)), hr2⟩, by rw [ec]; exact r50, by rw [ec]⟩ | exact ⟨fun j h1 h2 => (f35 j h2).trans (hm11.1 j h1 h2), ⟨_, hq2, hr2⟩, by rw [ec]; exact R35, by rw [ec]; exact hm11.2.2.2⟩)) (gle_s (gle_i (by rw [ec]) (gle_i (by first | rfl | omega) gle_nil)))
        · rw [if_neg (by rw [h53]; decide)] at ec r50
          have ec2 := cst_st (g := g) (by rw [ec]) (show i + 1 ≤ len by omega)
          rw [ec] at ec2
          refine g_iload_1 hC dX6_carryOutThePad_56 (pc' := 57) rfl ?_
          refine g_iretI hC hRt rfl dX6_carryOutThePad_57 ?_
          exact ⟨by rw [ec2], by rw [ec2]; exact r50, fun j h1 h2 => (f50 j h1).trans ((f35 j h2).trans (hm11.1 j h1 h2))⟩
  exact g_weak (L11 0 (by exact Nat.zero_le _) _ (by subst hb; exact ⟨fun i _ hi => gu_ne i hi, ⟨_, RO_0, rfl⟩, hR.of (fun i h1 h2 _ => gu_ne i (by omega)), rfl⟩)) (gle_s (gle_i (by rfl) (gle_s gle_nil)))

set_option maxHeartbeats 4000000 in
set_option maxRecDepth 100000 in
theorem k_carryOut {l : Launch} {ad : Nat → Nat} {X : gX} {pad : Nat → Nat} {len : Nat} (hd : PC X pad len) {n : Nat} {h : Nat → Nat → Nat} {g : Nat → Nat} (hR : RS X 1 g) (hH : HC X n h) (hI : Inv g) : K_X6_carryOut l ad [.ref 0] X (fun rr X' => rr = rCO pad len g ∧ CRc X' (is7 pad len) g (cst pad g len).1 n h ∧ PC X' pad (if is7 pad len = true then 0 else len) ∧ ∀ i, (i < 1 ∨ (20 ≤ i ∧ i < 42) ∨ 158 ≤ i) → i ≠ 160 → i ≠ 162 → X' i = X i) := by
  refine Ct.of [.ref 0, .null] 1 (by decide +kernel) rfl (Nat.le_of_ble_eq_true rfl) (fun F hl hC hRt _ => ?_)
  subst hl
  have hl80 := hd.2.1
  refine g_aload_0 hC dX6_carryOut_0 (pc' := 1) rfl ?_
  refine g_getR hC fl_X6_44 (sh_cs ad) rfl dX6_carryOut_1 (pc' := 4) rfl ?_
  refine g_aload_0 hC dX6_carryOut_4 (pc' := 5) rfl ?_
  refine g_getR hC fl_X6_51 (sh_cs ad) rfl dX6_carryOut_5 (pc' := 8) rfl ?_
  refine g_callV1I hC (c_firstFault hd) ml_X6_238 (sh_cpad ad) rfl ⟨(Nat.le_of_ble_eq_true rfl), (Nat.le_of_ble_eq_true rfl)⟩ (Nat.le_of_ble_eq_true rfl) dX6_carryOut_8 (pc' := 11) rfl ⟨Nat.zero_le _, Nat.zero_le _⟩ (fun v8 X8 q8 => ?_)
  obtain ⟨t8, f8⟩ := q8
  have R8 := hR.of (fun i h1 h2 _ => f8 i (by omega))
  have H8 := hH.of (fun i h1 h2 => f8 i (by omega))
  have d8 := hd.of (f8 160 (by decide)) (f8 161 (by decide))
  refine g_bipush hC dX6_carryOut_11 (pc' := 13) kc_bipush_m6 rfl ?_
  refine g_icmp_eq hC dX6_carryOut_13 (pc' := 16) (tgt := 19) (by decide) rfl (fun h13 => ?_) (fun h13 => ?_)
  · have h7 : is7 pad len = true := by
      rcases t8 with ⟨P, rfl, hP, -⟩ | ⟨-, q, hq, hq7⟩
      · exact absurd h13 (nI_ne6 (by omega))
      · exact is7_t hq hq7
    refine g_aload_0 hC dX6_carryOut_19 (pc' := 20) rfl ?_
    refine g_getR hC fl_X6_29 (sh_cs ad) rfl dX6_carryOut_20 (pc' := 23) rfl ?_
    refine g_aload_0 hC dX6_carryOut_23 (pc' := 24) rfl ?_
    refine g_getR hC fl_X6_10 (sh_cs ad) rfl dX6_carryOut_24 (pc' := 27) rfl ?_
    refine g_callV1V hC (c_hRecord H8 R8) ml_X6_59 (sh_hist ad) rfl ⟨(Nat.le_of_ble_eq_true rfl), (Nat.le_of_ble_eq_true rfl)⟩ (Nat.le_of_ble_eq_true rfl) dX6_carryOut_27 (pc' := 30) rfl ⟨Nat.zero_le _, Nat.zero_le _⟩ (fun X27 q27 => ?_)
    obtain ⟨H27, f27⟩ := q27
    have R27 := R8.of (fun i h1 h2 _ => f27 i (by omega))
    refine g_aload_0 hC dX6_carryOut_30 (pc' := 31) rfl ?_
    refine g_callV0I hC (k_carryPad (d8.of (f27 160 (by omega)) (f27 161 (by omega))) R27 hI h7) ml_X6_242 (sh_cs ad) rfl ⟨(Nat.le_of_ble_eq_true rfl), (Nat.le_of_ble_eq_true rfl)⟩ (Nat.le_of_ble_eq_true rfl) dX6_carryOut_31 (pc' := 34) rfl ⟨Nat.zero_le _, Nat.zero_le _⟩ (fun v31 X31 q31 => ?_)
    obtain ⟨rfl, r31, f31⟩ := q31
    refine g_istore_1 hC dX6_carryOut_34 (pc' := 35) rfl (Nat.le_of_ble_eq_true rfl) rfl ?_
    refine g_aload_0 hC dX6_carryOut_35 (pc' := 36) rfl ?_
    refine g_getR hC fl_X6_44 (sh_cs ad) rfl dX6_carryOut_36 (pc' := 39) rfl ?_
    refine g_iconst hC dX6_carryOut_39 (pc' := 40) kc_iconst_0 rfl ?_
    refine g_putI hC fl_X6_205 (sh_cpad ad) rfl rfl rfl dX6_carryOut_40 (pc' := 43) rfl ?_
    refine g_iload_1 hC dX6_carryOut_43 (pc' := 44) rfl ?_
    refine g_iretI hC hRt rfl dX6_carryOut_44 ?_
    refine ⟨by rw [rCO, h7, if_pos rfl], CRc_t h7 ⟨r31.of (fun i h1 h2 _ => gu_ne i (by omega)), H27.of (fun i h1 h2 => (gu_ne i (by omega)).trans (f31 i (by omega) (by omega)))⟩, by rw [h7]; exact ⟨gu_at, Nat.zero_le _, fun i hi => absurd hi (Nat.not_lt_zero i)⟩, fun i hi h0 h2 => (gu_ne i h0).trans ((f31 i (by omega) h2).trans ((f27 i (by omega)).trans (f8 i h2)))⟩
  · have h7 : is7 pad len = false := by
      refine is7_f (fun q hq hq7 => ?_)
      exact h13 (FT.uniq t8 (Or.inr ⟨rfl, q, hq, hq7⟩))
    refine g_bipush hC dX6_carryOut_16 (pc' := 18) kc_bipush_m3 rfl ?_
    refine g_iretI hC hRt rfl dX6_carryOut_18 ?_
    exact ⟨by rw [rCO, h7]; rfl, CRc_f h7 ⟨R8, H8⟩, by rw [h7]; exact d8, fun i _ _ h2 => f8 i h2⟩

set_option maxHeartbeats 4000000 in
set_option maxRecDepth 100000 in
theorem k_undo {l : Launch} {ad : Nat → Nat} {X : gX} {n : Nat} {h : Nat → Nat → Nat} (hH : HC X n h) : K_X6_undo l ad [.ref 0] X (fun rr X' => rr = rUndo n ∧ (if n = 0 then X' = X else RS X' 1 (h (n - 1)) ∧ HC X' (n - 1) h) ∧ fM X X') := by
  refine Ct.of [.ref 0] 0 (by decide +kernel) rfl (Nat.le_of_ble_eq_true rfl) (fun F hl hC hRt _ => ?_)
  subst hl
  have hn6 := hH.2.1
  refine g_aload_0 hC dX6_undo_0 (pc' := 1) rfl ?_
  refine g_getR hC fl_X6_29 (sh_cs ad) rfl dX6_undo_1 (pc' := 4) rfl ?_
  refine g_aload_0 hC dX6_undo_4 (pc' := 5) rfl ?_
  refine g_getR hC fl_X6_10 (sh_cs ad) rfl dX6_undo_5 (pc' := 8) rfl ?_
  refine g_callV1I hC (c_hBack hH) ml_X6_245 (sh_hist ad) rfl ⟨(Nat.le_of_ble_eq_true rfl), (Nat.le_of_ble_eq_true rfl)⟩ (Nat.le_of_ble_eq_true rfl) dX6_undo_8 (pc' := 11) rfl ⟨Nat.zero_le _, Nat.zero_le _⟩ (fun v8 X8 q8 => ?_)
  obtain ⟨rfl, c8, f8⟩ := q8
  refine g_ifZ_eq hC dX6_undo_11 (pc' := 14) (tgt := 24) (by decide) rfl (fun h11 => ?_) (fun h11 => ?_)
  · have hn0 : n = 0 := by have := of_decide_eq_false h11; omega
    refine g_bipush hC dX6_undo_24 (pc' := 26) kc_bipush_m5 rfl ?_
    refine g_iretI hC hRt rfl dX6_undo_26 ?_
    exact ⟨by simp [rUndo, hn0], c8, f8⟩
  · have hn0 : ¬ n = 0 := by have := of_decide_eq_true h11; omega
    have hB8 : RS X8 1 (h (n - 1)) ∧ HC X8 (n - 1) h := by rw [if_neg hn0] at c8; exact c8
    refine g_aload_0 hC dX6_undo_14 (pc' := 15) rfl ?_
    refine g_getR hC fl_X6_29 (sh_cs ad) rfl dX6_undo_15 (pc' := 18) rfl ?_
    refine g_getI hC fl_X6_208 (sh_hist ad) rfl (hB8.2.1) dX6_undo_18 (pc' := 21) rfl ?_
    refine g_goto hC dX6_undo_21 (tgt := 26) (by decide) ?_
    refine g_iretI hC hRt rfl dX6_undo_26 ?_
    exact ⟨by simp [rUndo, hn0], c8, f8⟩

set_option maxHeartbeats 4000000 in
set_option maxRecDepth 100000 in
theorem k_save {l : Launch} {ad : Nat → Nat} {X : gX} {a : Int32} {sv : Nat → Bool} {sg : Nat → Nat → Nat} {g : Nat → Nat} (hV : CS X sv sg) (hR : RS X 1 g) (hI : Inv g) : K_X6_save l ad [.ref 0, .int (a)] X (fun rr X' => rr = rSave g a ∧ CS X' (updS sv (okSlot a) (cl a) true) (updS sg (okSlot a) (cl a) g) ∧ ∀ i, (i < 159 ∨ (160 ≤ i ∧ i < 163) ∨ 201 ≤ i) → X' i = X i) := by
  refine Ct.of [.ref 0, .int (a)] 0 (by decide +kernel) rfl (Nat.le_of_ble_eq_true rfl) (fun F hl hC hRt _ => ?_)
  subst hl
  refine g_iload_1 hC dX6_save_0 (pc' := 1) rfl ?_
  refine g_callS1R hC (c_iSlot) ml_X6_249 ⟨(Nat.le_of_ble_eq_true rfl), (Nat.le_of_ble_eq_true rfl)⟩ (Nat.le_of_ble_eq_true rfl) dX6_save_1 (pc' := 4) rfl ⟨Nat.zero_le _, Nat.zero_le _⟩ ?_
  refine g_ifZ_ne hC dX6_save_4 (pc' := 7) (tgt := 10) (by decide) rfl (fun h4 => ?_) (fun h4 => ?_)
  · obtain ⟨s, rfl, -, hs⟩ := inB_N (by decide) h4 (by decide)
    have cs : cl (nI s) = s := cl_nI (by omega)
    refine g_aload_0 hC dX6_save_10 (pc' := 11) rfl ?_
    refine g_getR hC fl_X6_33 (sh_cs ad) rfl dX6_save_11 (pc' := 14) rfl ?_
    refine g_iload_1 hC dX6_save_14 (pc' := 15) rfl ?_
    refine g_aald3 hC (sh_slots ad) (Nat.le_of_ble_eq_true rfl) (by omega) (slots_at (by omega)) dX6_save_15 (pc' := 16) rfl ?_
    refine g_aload_0 hC dX6_save_16 (pc' := 17) rfl ?_
    refine g_getR hC fl_X6_10 (sh_cs ad) rfl dX6_save_17 (pc' := 20) rfl ?_
    refine g_callV1V hC (c_tCopy (g := g) (isB_slot (j := s) (by omega)) isB_1 (by omega) hR) ml_X6_227 (sh_st ad (isB_slot (by omega))) rfl ⟨(Nat.le_of_ble_eq_true rfl), (Nat.le_of_ble_eq_true rfl)⟩ (Nat.le_of_ble_eq_true rfl) dX6_save_20 (pc' := 23) rfl ⟨Nat.zero_le _, Nat.zero_le _⟩ (fun X20 q20 => ?_)
    obtain ⟨r20, f20⟩ := q20
    refine g_aload_0 hC dX6_save_23 (pc' := 24) rfl ?_
    refine g_getR hC fl_X6_37 (sh_cs ad) rfl dX6_save_24 (pc' := 27) rfl ?_
    refine g_iload_1 hC dX6_save_27 (pc' := 28) rfl ?_
    refine g_iconst hC dX6_save_28 (pc' := 29) kc_iconst_1 rfl ?_
    refine g_zast hC (sh_cSaved ad) (Nat.le_of_ble_eq_true rfl) (by omega) (by decide +kernel) dX6_save_29 (pc' := 30) rfl ?_
    refine g_aload_0 hC dX6_save_30 (pc' := 31) rfl ?_
    refine g_getR hC fl_X6_10 (sh_cs ad) rfl dX6_save_31 (pc' := 34) rfl ?_
    refine g_callV0R hC (c_tStack isB_1 (hR.of (fun i h1 h2 _ => (gu_ne i (by omega)).trans (f20 i (by omega)))) hI) ml_X6_198 (sh_st ad isB_1) rfl ⟨(Nat.le_of_ble_eq_true rfl), (Nat.le_of_ble_eq_true rfl)⟩ (Nat.le_of_ble_eq_true rfl) dX6_save_34 (pc' := 37) rfl ⟨Nat.zero_le _, Nat.zero_le _⟩ ?_
    refine g_iretI hC hRt rfl dX6_save_37 ?_
    refine ⟨by simp only [rSave, h4, cs, ↓reduceIte], ?_, fun i hi => (gu_ne i (by omega)).trans (f20 i (by omega))⟩
    rw [show okSlot (nI s) = true from h4, cs]
    exact cs_save (by omega) hV r20 f20
  · refine g_bipush hC dX6_save_7 (pc' := 9) kc_bipush_m2 rfl ?_
    refine g_iretI hC hRt rfl dX6_save_9 ?_
    refine ⟨by simp only [rSave, h4, ↓reduceIte, Bool.false_eq_true], ?_, fun _ _ => rfl⟩
    have e1 : updS sv (okSlot a) (cl a) true = sv := by funext j; simp [updS, okSlot, h4]
    have e2 : updS sg (okSlot a) (cl a) g = sg := by funext j; simp [updS, okSlot, h4]
    rw [e1, e2]
    exact hV

set_option maxHeartbeats 4000000 in
set_option maxRecDepth 100000 in
theorem k_restore {l : Launch} {ad : Nat → Nat} {X : gX} {a : Int32} {sv : Nat → Bool} {sg : Nat → Nat → Nat} (hV : CS X sv sg) (hIs : ∀ s, s < 2 → sv s = true → Inv (sg s)) {n : Nat} {h : Nat → Nat → Nat} {g : Nat → Nat} (hR : RS X 1 g) (hH : HC X n h) (hI : Inv g) : K_X6_restore l ad [.ref 0, .int (a)] X (fun rr X' => rr = rRest sv sg a ∧ CRc X' (okRest sv a) g (sg (cl a)) n h ∧ fM X X') := by
  refine Ct.of [.ref 0, .int (a)] 0 (by decide +kernel) rfl (Nat.le_of_ble_eq_true rfl) (fun F hl hC hRt _ => ?_)
  subst hl
  refine g_iload_1 hC dX6_restore_0 (pc' := 1) rfl ?_
  refine g_callS1R hC (c_iSlot) ml_X6_249 ⟨(Nat.le_of_ble_eq_true rfl), (Nat.le_of_ble_eq_true rfl)⟩ (Nat.le_of_ble_eq_true rfl) dX6_restore_1 (pc' := 4) rfl ⟨Nat.zero_le _, Nat.zero_le _⟩ ?_
  refine g_ifZ_ne hC dX6_restore_4 (pc' := 7) (tgt := 10) (by decide) rfl (fun h4 => ?_) (fun h4 => ?_)
  · obtain ⟨s, rfl, -, hs⟩ := inB_N (by decide) h4 (by decide)
    have cs : cl (nI s) = s := cl_nI (by omega)
    refine g_aload_0 hC dX6_restore_10 (pc' := 11) rfl ?_
    refine g_getR hC fl_X6_37 (sh_cs ad) rfl dX6_restore_11 (pc' := 14) rfl ?_
    refine g_iload_1 hC dX6_restore_14 (pc' := 15) rfl ?_
    refine g_zald hC (sh_cSaved ad) (Nat.le_of_ble_eq_true rfl) (by omega) ((hV s (by omega)).1) dX6_restore_15 (pc' := 16) rfl ?_
    refine g_ifZ_ne hC dX6_restore_16 (pc' := 19) (tgt := 22) (by decide) rfl (fun h16 => ?_) (fun h16 => ?_)
    · refine g_aload_0 hC dX6_restore_22 (pc' := 23) rfl ?_
      refine g_getR hC fl_X6_29 (sh_cs ad) rfl dX6_restore_23 (pc' := 26) rfl ?_
      refine g_aload_0 hC dX6_restore_26 (pc' := 27) rfl ?_
      refine g_getR hC fl_X6_10 (sh_cs ad) rfl dX6_restore_27 (pc' := 30) rfl ?_
      refine g_callV1V hC (c_hRecord hH hR) ml_X6_59 (sh_hist ad) rfl ⟨(Nat.le_of_ble_eq_true rfl), (Nat.le_of_ble_eq_true rfl)⟩ (Nat.le_of_ble_eq_true rfl) dX6_restore_30 (pc' := 33) rfl ⟨Nat.zero_le _, Nat.zero_le _⟩ (fun X30 q30 => ?_)
      obtain ⟨H30, f30⟩ := q30
      have R30 := hR.of (fun i h1 h2 _ => f30 i (by omega))
      refine g_aload_0 hC dX6_restore_33 (pc' := 34) rfl ?_
      refine g_getR hC fl_X6_10 (sh_cs ad) rfl dX6_restore_34 (pc' := 37) rfl ?_
      refine g_aload_0 hC dX6_restore_37 (pc' := 38) rfl ?_
      refine g_getR hC fl_X6_33 (sh_cs ad) rfl dX6_restore_38 (pc' := 41) rfl ?_
      refine g_iload_1 hC dX6_restore_41 (pc' := 42) rfl ?_
      refine g_aald3 hC (sh_slots ad) (Nat.le_of_ble_eq_true rfl) (by omega) (slots_at (by omega)) dX6_restore_42 (pc' := 43) rfl ?_
      refine g_callV1V hC (c_tCopy (g := sg s) isB_1 (isB_slot (j := s) (by omega)) (by omega) (((hV s (by omega)).2 h16).of (fun i h1 h2 _ => f30 i (by omega)))) ml_X6_227 (sh_st ad isB_1) rfl ⟨(Nat.le_of_ble_eq_true rfl), (Nat.le_of_ble_eq_true rfl)⟩ (Nat.le_of_ble_eq_true rfl) dX6_restore_43 (pc' := 46) rfl ⟨Nat.zero_le _, Nat.zero_le _⟩ (fun X43 q43 => ?_)
      obtain ⟨r43, f43⟩ := q43
      refine g_aload_0 hC dX6_restore_46 (pc' := 47) rfl ?_
      refine g_getR hC fl_X6_10 (sh_cs ad) rfl dX6_restore_47 (pc' := 50) rfl ?_
      refine g_callV0R hC (c_tStack isB_1 r43 (hIs s (by omega) h16)) ml_X6_198 (sh_st ad isB_1) rfl ⟨(Nat.le_of_ble_eq_true rfl), (Nat.le_of_ble_eq_true rfl)⟩ (Nat.le_of_ble_eq_true rfl) dX6_restore_50 (pc' := 53) rfl ⟨Nat.zero_le _, Nat.zero_le _⟩ ?_
      refine g_iretI hC hRt rfl dX6_restore_53 ?_
      refine ⟨?_, CRc_t ?_ ?_, (fM.h f30).tr (fM.o f43)⟩
      · simp only [rRest, okRest, cl_nI, h4, cs, h16, ↓reduceIte, Bool.false_eq_true, Bool.and_true, Bool.true_and, Bool.and_false, Bool.false_and, decide_true, decide_false, Bool.not_true, Bool.not_false]
      · simp only [okRest, cl_nI, h4, cs, h16, ↓reduceIte, Bool.false_eq_true, Bool.and_true, Bool.true_and, Bool.and_false, Bool.false_and, decide_true, decide_false, Bool.not_true, Bool.not_false]
      · rw [cs]
        exact ⟨r43, H30.o (fun i hi => f43 i (by omega))⟩
    · refine g_bipush hC dX6_restore_19 (pc' := 21) kc_bipush_m5 rfl ?_
      refine g_iretI hC hRt rfl dX6_restore_21 ?_
      refine ⟨?_, CRc_f ?_ ⟨hR, hH⟩, fM.rf⟩
      · simp only [rRest, okRest, cl_nI, h4, cs, h16, ↓reduceIte, Bool.false_eq_true, Bool.and_true, Bool.true_and, Bool.and_false, Bool.false_and, decide_true, decide_false, Bool.not_true, Bool.not_false]
      · simp only [okRest, cl_nI, h4, cs, h16, ↓reduceIte, Bool.false_eq_true, Bool.and_true, Bool.true_and, Bool.and_false, Bool.false_and, decide_true, decide_false, Bool.not_true, Bool.not_false]
  · refine g_bipush hC dX6_restore_7 (pc' := 9) kc_bipush_m2 rfl ?_
    refine g_iretI hC hRt rfl dX6_restore_9 ?_
    refine ⟨?_, CRc_f ?_ ⟨hR, hH⟩, fM.rf⟩
    · simp only [rRest, okRest, cl_nI, h4, ↓reduceIte, Bool.false_eq_true, Bool.and_true, Bool.true_and, Bool.and_false, Bool.false_and, decide_true, decide_false, Bool.not_true, Bool.not_false]
    · simp only [okRest, cl_nI, h4, ↓reduceIte, Bool.false_eq_true, Bool.and_true, Bool.true_and, Bool.and_false, Bool.false_and, decide_true, decide_false, Bool.not_true, Bool.not_false]
