theorem oI_pos {n : Nat} (h : ¬ n = 0) : oI n = nI (n - 1) := by simp [oI, h]
theorem oI_ge {n : Nat} (hn : n < 1073741824) : 0 ≤ oI n ↔ ¬ n = 0 := by
  rw [← Int32.not_lt, oI_neg hn]
def mtest (g : Nat → Nat) (s : Nat) (b : Bool) (f k : Nat) : Bool := !b || decide (mk g s f k % 2 = 1)
def mcount (g : Nat → Nat) (s : Nat) (b : Bool) (f : Nat) : Nat := cnB (mtest g s b f) (cnt g s f)
def marks (g : Nat → Nat) (s : Nat) (b : Bool) : Nat := smN (mcount g s b) 10
def kset (g : Nat → Nat) (s c f : Nat) : Bool := decide (kind g s f = c)
theorem mcount_le {g : Nat → Nat} (hI : Inv g) {s f : Nat} (b : Bool) (hs : s < 5) (hf : f < 10) : mcount g s b f ≤ 8 := Nat.le_trans (cnB_le _ _) (hI.c hs hf)
theorem marks_le {g : Nat → Nat} (hI : Inv g) {s : Nat} (b : Bool) (hs : s < 5) : marks g s b ≤ 80 := smN_leB 10 (fun k hk => mcount_le hI b hs hk)

set_option maxHeartbeats 4000000 in
set_option maxRecDepth 100000 in
theorem c_stateOf {l : Launch} {ad : Nat → Nat} {X : gX} {s f : Nat} {g : Nat → Nat} (hs : s < 5) (hf : f < 10) (hR : RM X g) (hI : Inv g) : K_X7_stateOf l ad [.ref 201, .int (nI s), .int (nI f)] X (pR X (nI (kind g s f))) := by
  refine Ct.of [.ref 201, .int (nI s), .int (nI f), .null, .null, .null, .null, .null] 5 (by decide +kernel) rfl (Nat.le_of_ble_eq_true rfl) (fun F hl hC hRt _ => ?_)
  subst hl
  have bc := hI.c hs hf
  have bl := last_le g s f
  have b1 := hI.1
  refine g_aload_0 hC dX7_stateOf_0 (pc' := 1) rfl ?_
  refine g_iload_1 hC dX7_stateOf_1 (pc' := 2) rfl ?_
  refine g_iload_2 hC dX7_stateOf_2 (pc' := 3) rfl ?_
  refine g_callV2R hC (c_lastAt hs hf hR hI) ml_X7_108 (sh_M ad) rfl ⟨(Nat.le_of_ble_eq_true rfl), (Nat.le_of_ble_eq_true rfl)⟩ (Nat.le_of_ble_eq_true rfl) dX7_stateOf_3 (pc' := 6) rfl ⟨Nat.zero_le _, Nat.zero_le _⟩ ?_
  refine g_istore_3 hC dX7_stateOf_6 (pc' := 7) rfl (Nat.le_of_ble_eq_true rfl) rfl ?_
  refine g_iload_3 hC dX7_stateOf_7 (pc' := 8) rfl ?_
  refine g_if_ge hC dX7_stateOf_8 (pc' := 11) (tgt := 13) (by decide) rfl (fun h8 => ?_) (fun h8 => ?_)
  · have hl : ¬ last g s f = 0 := (oI_ge (by omega)).mp h8
    have bo : own g s f < 20000 := hI.m hs hf (by omega)
    rw [oI_pos hl]
    refine g_aload_0 hC dX7_stateOf_13 (pc' := 14) rfl ?_
    refine g_iload_1 hC dX7_stateOf_14 (pc' := 15) rfl ?_
    refine g_iload_2 hC dX7_stateOf_15 (pc' := 16) rfl ?_
    refine g_iload_3 hC dX7_stateOf_16 (pc' := 17) rfl ?_
    refine g_callV3R hC (c_markAt (k := last g s f - 1) hs hf (by omega) hR) ml_X7_64 (sh_M ad) rfl ⟨(Nat.le_of_ble_eq_true rfl), (Nat.le_of_ble_eq_true rfl)⟩ (Nat.le_of_ble_eq_true rfl) dX7_stateOf_17 (pc' := 20) rfl ⟨Nat.zero_le _, Nat.zero_le _⟩ ?_
    refine g_istore_4 hC dX7_stateOf_20 (pc' := 22) rfl (Nat.le_of_ble_eq_true rfl) rfl ?_
    refine g_iconst hC dX7_stateOf_22 (pc' := 23) kc_iconst_0 rfl ?_
    refine g_istore_5 hC dX7_stateOf_23 (pc' := 25) rfl (Nat.le_of_ble_eq_true rfl) rfl ?_
    refine g_iconst hC dX7_stateOf_25 (pc' := 26) kc_iconst_0 rfl ?_
    refine g_istore_6 hC dX7_stateOf_26 (pc' := 28) rfl (Nat.le_of_ble_eq_true rfl) rfl ?_
    have L28 : ∀ k, k ≤ last g s f - 1 → G F (S0 ad) (0, 0) X 28 [.ref 201, .int (nI s), .int (nI f), .int (nI (last g s f - 1)), .int (nI (own g s f)), .int (zI (anB (blur g s f) k)), .int (nI k), .null] [] := by
      refine up_ind _ (fun k hk28 ih28 => ?_)
      have bm : mk g s f k < 20000 := hI.m hs hf (by omega)
      refine g_iload_6 hC dX7_stateOf_28 (pc' := 30) rfl ?_
      refine g_iload_3 hC dX7_stateOf_30 (pc' := 31) rfl ?_
      refine g_icmpN_ge hC dX7_stateOf_31 (pc' := 34) (tgt := 104) (by decide) rfl (by omega) (by omega) (fun h31 => ?_) (fun h31 => ?_)
      · refine g_iload_5 hC dX7_stateOf_104 (pc' := 106) rfl ?_
        refine g_ifZ_eq hC dX7_stateOf_106 (pc' := 109) (tgt := 113) (by decide) rfl (fun h106 => ?_) (fun h106 => ?_)
        · refine g_iconst hC dX7_stateOf_113 (pc' := 114) kc_iconst_1 rfl ?_
          refine g_iretR hC hRt rfl dX7_stateOf_114 ?_
          rw [show k = last g s f - 1 by omega] at h106; simp [kind, hl, h106]
        · refine g_iconst hC dX7_stateOf_109 (pc' := 110) kc_iconst_2 rfl ?_
          refine g_goto hC dX7_stateOf_110 (tgt := 114) (by decide) ?_
          refine g_iretR hC hRt rfl dX7_stateOf_114 ?_
          rw [show k = last g s f - 1 by omega] at h106; simp [kind, hl, h106]
      · refine g_aload_0 hC dX7_stateOf_34 (pc' := 35) rfl ?_
        refine g_iload_1 hC dX7_stateOf_35 (pc' := 36) rfl ?_
        refine g_iload_2 hC dX7_stateOf_36 (pc' := 37) rfl ?_
        refine g_iload_6 hC dX7_stateOf_37 (pc' := 39) rfl ?_
        refine g_callV3R hC (c_markAt (k := k) hs hf (by omega) hR) ml_X7_64 (sh_M ad) rfl ⟨(Nat.le_of_ble_eq_true rfl), (Nat.le_of_ble_eq_true rfl)⟩ (Nat.le_of_ble_eq_true rfl) dX7_stateOf_39 (pc' := 42) rfl ⟨Nat.zero_le _, Nat.zero_le _⟩ ?_
        refine g_istore_7 hC dX7_stateOf_42 (pc' := 44) rfl (Nat.le_of_ble_eq_true rfl) rfl ?_
        refine g_iload_5 hC dX7_stateOf_44 (pc' := 46) rfl ?_
        refine g_ifZ_ne hC dX7_stateOf_46 (pc' := 49) (tgt := 91) (by decide) rfl (fun h46 => ?_) (fun h46 => ?_)
        · refine g_iconst hC dX7_stateOf_91 (pc' := 92) kc_iconst_1 rfl ?_
          refine g_goto hC dX7_stateOf_92 (tgt := 96) (by decide) ?_
          refine g_istore_5 hC dX7_stateOf_96 (pc' := 98) rfl (Nat.le_of_ble_eq_true rfl) rfl ?_
          refine g_iinc_6 hC dX7_stateOf_98 (pc' := 101) rfl (Nat.le_of_ble_eq_true rfl) rfl (nI_inc _ _ kc_iinc_1) ?_
          refine g_goto hC dX7_stateOf_101 (tgt := 28) (by decide) ?_
          exact g_weak (ih28 (by omega)) (gle_s (gle_s (gle_s (gle_s (gle_s (gle_i (by first | exact (nI1_z (by simp [anB, blur, rd, *])).symm | exact (nI0_z (by simp [anB, blur, rd, *])).symm) (gle_i (by first | rfl | omega) (gle_u gle_nil))))))))
        · refine g_aload_0 hC dX7_stateOf_49 (pc' := 50) rfl ?_
          refine g_iload_7 hC dX7_stateOf_50 (pc' := 52) rfl ?_
          refine g_callV1R hC (c_isReadable bm hR hI) ml_X7_105 (sh_M ad) rfl ⟨(Nat.le_of_ble_eq_true rfl), (Nat.le_of_ble_eq_true rfl)⟩ (Nat.le_of_ble_eq_true rfl) dX7_stateOf_52 (pc' := 55) rfl ⟨Nat.zero_le _, Nat.zero_le _⟩ ?_
          refine g_ifZ_eq hC dX7_stateOf_55 (pc' := 58) (tgt := 95) (by decide) rfl (fun h55 => ?_) (fun h55 => ?_)
          · refine g_iconst hC dX7_stateOf_95 (pc' := 96) kc_iconst_0 rfl ?_
            refine g_istore_5 hC dX7_stateOf_96 (pc' := 98) rfl (Nat.le_of_ble_eq_true rfl) rfl ?_
            refine g_iinc_6 hC dX7_stateOf_98 (pc' := 101) rfl (Nat.le_of_ble_eq_true rfl) rfl (nI_inc _ _ kc_iinc_1) ?_
            refine g_goto hC dX7_stateOf_101 (tgt := 28) (by decide) ?_
            exact g_weak (ih28 (by omega)) (gle_s (gle_s (gle_s (gle_s (gle_s (gle_i (by first | exact (nI1_z (by simp [anB, blur, rd, *])).symm | exact (nI0_z (by simp [anB, blur, rd, *])).symm) (gle_i (by first | rfl | omega) (gle_u gle_nil))))))))
          · refine g_iload_7 hC dX7_stateOf_58 (pc' := 60) rfl ?_
            refine g_callS1R hC (c_valueOf bm) ml_X7_111 ⟨(Nat.le_of_ble_eq_true rfl), (Nat.le_of_ble_eq_true rfl)⟩ (Nat.le_of_ble_eq_true rfl) dX7_stateOf_60 (pc' := 63) rfl ⟨Nat.zero_le _, Nat.zero_le _⟩ ?_
            refine g_iload_4 hC dX7_stateOf_63 (pc' := 65) rfl ?_
            refine g_callS1R hC (c_valueOf bo) ml_X7_111 ⟨(Nat.le_of_ble_eq_true rfl), (Nat.le_of_ble_eq_true rfl)⟩ (Nat.le_of_ble_eq_true rfl) dX7_stateOf_65 (pc' := 68) rfl ⟨Nat.zero_le _, Nat.zero_le _⟩ ?_
            refine g_icmpN_eq hC dX7_stateOf_68 (pc' := 71) (tgt := 95) (by decide) rfl (by omega) (by omega) (fun h68 => ?_) (fun h68 => ?_)
            · refine g_iconst hC dX7_stateOf_95 (pc' := 96) kc_iconst_0 rfl ?_
              refine g_istore_5 hC dX7_stateOf_96 (pc' := 98) rfl (Nat.le_of_ble_eq_true rfl) rfl ?_
              refine g_iinc_6 hC dX7_stateOf_98 (pc' := 101) rfl (Nat.le_of_ble_eq_true rfl) rfl (nI_inc _ _ kc_iinc_1) ?_
              refine g_goto hC dX7_stateOf_101 (tgt := 28) (by decide) ?_
              exact g_weak (ih28 (by omega)) (gle_s (gle_s (gle_s (gle_s (gle_s (gle_i (by first | exact (nI1_z (by simp [anB, blur, rd, *])).symm | exact (nI0_z (by simp [anB, blur, rd, *])).symm) (gle_i (by first | rfl | omega) (gle_u gle_nil))))))))
            · refine g_iload_7 hC dX7_stateOf_71 (pc' := 73) rfl ?_
              refine g_callS1R hC (c_strengthOf bm) ml_X7_71 ⟨(Nat.le_of_ble_eq_true rfl), (Nat.le_of_ble_eq_true rfl)⟩ (Nat.le_of_ble_eq_true rfl) dX7_stateOf_73 (pc' := 76) rfl ⟨Nat.zero_le _, Nat.zero_le _⟩ ?_
              refine g_iload_4 hC dX7_stateOf_76 (pc' := 78) rfl ?_
              refine g_callS1R hC (c_strengthOf bo) ml_X7_71 ⟨(Nat.le_of_ble_eq_true rfl), (Nat.le_of_ble_eq_true rfl)⟩ (Nat.le_of_ble_eq_true rfl) dX7_stateOf_78 (pc' := 81) rfl ⟨Nat.zero_le _, Nat.zero_le _⟩ ?_
              refine g_aload_0 hC dX7_stateOf_81 (pc' := 82) rfl ?_
              refine g_getR hC fl_X7_7 (sh_M ad) rfl dX7_stateOf_82 (pc' := 85) rfl ?_
              refine g_iconst hC dX7_stateOf_85 (pc' := 86) kc_iconst_1 rfl ?_
              refine g_iald hC (sh_mnow ad) (Nat.le_of_ble_eq_true rfl) (by omega) (hR.at (by decide) (by decide)) dX7_stateOf_86 (pc' := 87) rfl ?_
              refine g_iaddN hC dX7_stateOf_87 (pc' := 88) rfl ?_
              refine g_icmpN_le hC dX7_stateOf_88 (pc' := 91) (tgt := 95) (by decide) rfl (by omega) (by omega) (fun h88 => ?_) (fun h88 => ?_)
              · refine g_iconst hC dX7_stateOf_95 (pc' := 96) kc_iconst_0 rfl ?_
                refine g_istore_5 hC dX7_stateOf_96 (pc' := 98) rfl (Nat.le_of_ble_eq_true rfl) rfl ?_
                refine g_iinc_6 hC dX7_stateOf_98 (pc' := 101) rfl (Nat.le_of_ble_eq_true rfl) rfl (nI_inc _ _ kc_iinc_1) ?_
                refine g_goto hC dX7_stateOf_101 (tgt := 28) (by decide) ?_
                exact g_weak (ih28 (by omega)) (gle_s (gle_s (gle_s (gle_s (gle_s (gle_i (by first | exact (nI1_z (by simp [anB, blur, rd, *])).symm | exact (nI0_z (by simp [anB, blur, rd, *])).symm) (gle_i (by first | rfl | omega) (gle_u gle_nil))))))))
              · refine g_iconst hC dX7_stateOf_91 (pc' := 92) kc_iconst_1 rfl ?_
                refine g_goto hC dX7_stateOf_92 (tgt := 96) (by decide) ?_
                refine g_istore_5 hC dX7_stateOf_96 (pc' := 98) rfl (Nat.le_of_ble_eq_true rfl) rfl ?_
                refine g_iinc_6 hC dX7_stateOf_98 (pc' := 101) rfl (Nat.le_of_ble_eq_true rfl) rfl (nI_inc _ _ kc_iinc_1) ?_
                refine g_goto hC dX7_stateOf_101 (tgt := 28) (by decide) ?_
                exact g_weak (ih28 (by omega)) (gle_s (gle_s (gle_s (gle_s (gle_s (gle_i (by first | exact (nI1_z (by simp [anB, blur, rd, *])).symm | exact (nI0_z (by simp [anB, blur, rd, *])).symm) (gle_i (by first | rfl | omega) (gle_u gle_nil))))))))
    exact g_weak (L28 0 (by exact Nat.zero_le _)) (gle_s (gle_s (gle_s (gle_s (gle_s (gle_i (by rfl) (gle_s (gle_u gle_nil))))))))
  · have hl : last g s f = 0 := Decidable.not_not.mp (fun z => h8 ((oI_ge (by omega)).mpr z))
    refine g_iconst hC dX7_stateOf_11 (pc' := 12) kc_iconst_0 rfl ?_
    refine g_iretR hC hRt rfl dX7_stateOf_12 ?_
    simp [kind, hl]

set_option maxHeartbeats 4000000 in
set_option maxRecDepth 100000 in
theorem c_lastOf0 {l : Launch} {ad : Nat → Nat} {X : gX} {s f : Nat} {g : Nat → Nat} (hs : s < 5) (hf : f < 10) (hR : RM X g) (hI : Inv g) : K_X7_lastOf l ad [.ref 201, .int (nI s), .int (nI f), .int (nI 0)] X (pR X (valI g s f)) := by
  refine Ct.of [.ref 201, .int (nI s), .int (nI f), .int (nI 0), .null, .null] 2 (by decide +kernel) rfl (Nat.le_of_ble_eq_true rfl) (fun F hl hC hRt _ => ?_)
  subst hl
  have bc := hI.c hs hf
  have bl := last_le g s f
  refine g_aload_0 hC dX7_lastOf_0 (pc' := 1) rfl ?_
  refine g_iload_1 hC dX7_lastOf_1 (pc' := 2) rfl ?_
  refine g_iload_2 hC dX7_lastOf_2 (pc' := 3) rfl ?_
  refine g_callV2R hC (c_lastAt hs hf hR hI) ml_X7_108 (sh_M ad) rfl ⟨(Nat.le_of_ble_eq_true rfl), (Nat.le_of_ble_eq_true rfl)⟩ (Nat.le_of_ble_eq_true rfl) dX7_lastOf_3 (pc' := 6) rfl ⟨Nat.zero_le _, Nat.zero_le _⟩ ?_
  refine g_istore_4 hC dX7_lastOf_6 (pc' := 8) rfl (Nat.le_of_ble_eq_true rfl) rfl ?_
  refine g_iload_4 hC dX7_lastOf_8 (pc' := 10) rfl ?_
  refine g_if_ge hC dX7_lastOf_10 (pc' := 13) (tgt := 16) (by decide) rfl (fun h10 => ?_) (fun h10 => ?_)
  · have hl : ¬ last g s f = 0 := (oI_ge (by omega)).mp h10
    have bo : own g s f < 20000 := hI.m hs hf (by omega)
    rw [oI_pos hl]
    refine g_aload_0 hC dX7_lastOf_16 (pc' := 17) rfl ?_
    refine g_iload_1 hC dX7_lastOf_17 (pc' := 18) rfl ?_
    refine g_iload_2 hC dX7_lastOf_18 (pc' := 19) rfl ?_
    refine g_iload_4 hC dX7_lastOf_19 (pc' := 21) rfl ?_
    refine g_callV3R hC (c_markAt (k := last g s f - 1) hs hf (by omega) hR) ml_X7_64 (sh_M ad) rfl ⟨(Nat.le_of_ble_eq_true rfl), (Nat.le_of_ble_eq_true rfl)⟩ (Nat.le_of_ble_eq_true rfl) dX7_lastOf_21 (pc' := 24) rfl ⟨Nat.zero_le _, Nat.zero_le _⟩ ?_
    refine g_istore_5 hC dX7_lastOf_24 (pc' := 26) rfl (Nat.le_of_ble_eq_true rfl) rfl ?_
    refine g_iload_3 hC dX7_lastOf_26 (pc' := 27) rfl ?_
    refine g_ifN_ne hC dX7_lastOf_27 (pc' := 30) (tgt := 38) (by decide) rfl (by omega) (fun h27 => by omega) (fun h27 => ?_)
    refine g_iload_5 hC dX7_lastOf_30 (pc' := 32) rfl ?_
    refine g_callS1R hC (c_valueOf bo) ml_X7_111 ⟨(Nat.le_of_ble_eq_true rfl), (Nat.le_of_ble_eq_true rfl)⟩ (Nat.le_of_ble_eq_true rfl) dX7_lastOf_32 (pc' := 35) rfl ⟨Nat.zero_le _, Nat.zero_le _⟩ ?_
    refine g_goto hC dX7_lastOf_35 (tgt := 43) (by decide) ?_
    refine g_iretR hC hRt rfl dX7_lastOf_43 ?_
    simp [valI, hl, own]
  · have hl : last g s f = 0 := Decidable.not_not.mp (fun z => h10 ((oI_ge (by omega)).mpr z))
    refine g_bipush hC dX7_lastOf_13 (pc' := 15) kc_bipush_m6 rfl ?_
    refine g_iretR hC hRt rfl dX7_lastOf_15 ?_
    simp [valI, hl, own]

set_option maxHeartbeats 4000000 in
set_option maxRecDepth 100000 in
theorem c_lastOf1 {l : Launch} {ad : Nat → Nat} {X : gX} {s f : Nat} {g : Nat → Nat} (hs : s < 5) (hf : f < 10) (hR : RM X g) (hI : Inv g) : K_X7_lastOf l ad [.ref 201, .int (nI s), .int (nI f), .int (nI 1)] X (pR X (strI g s f)) := by
  refine Ct.of [.ref 201, .int (nI s), .int (nI f), .int (nI 1), .null, .null] 2 (by decide +kernel) rfl (Nat.le_of_ble_eq_true rfl) (fun F hl hC hRt _ => ?_)
  subst hl
  have bc := hI.c hs hf
  have bl := last_le g s f
  refine g_aload_0 hC dX7_lastOf_0 (pc' := 1) rfl ?_
  refine g_iload_1 hC dX7_lastOf_1 (pc' := 2) rfl ?_
  refine g_iload_2 hC dX7_lastOf_2 (pc' := 3) rfl ?_
  refine g_callV2R hC (c_lastAt hs hf hR hI) ml_X7_108 (sh_M ad) rfl ⟨(Nat.le_of_ble_eq_true rfl), (Nat.le_of_ble_eq_true rfl)⟩ (Nat.le_of_ble_eq_true rfl) dX7_lastOf_3 (pc' := 6) rfl ⟨Nat.zero_le _, Nat.zero_le _⟩ ?_
  refine g_istore_4 hC dX7_lastOf_6 (pc' := 8) rfl (Nat.le_of_ble_eq_true rfl) rfl ?_
  refine g_iload_4 hC dX7_lastOf_8 (pc' := 10) rfl ?_
  refine g_if_ge hC dX7_lastOf_10 (pc' := 13) (tgt := 16) (by decide) rfl (fun h10 => ?_) (fun h10 => ?_)
  · have hl : ¬ last g s f = 0 := (oI_ge (by omega)).mp h10
    have bo : own g s f < 20000 := hI.m hs hf (by omega)
    rw [oI_pos hl]
    refine g_aload_0 hC dX7_lastOf_16 (pc' := 17) rfl ?_
    refine g_iload_1 hC dX7_lastOf_17 (pc' := 18) rfl ?_
    refine g_iload_2 hC dX7_lastOf_18 (pc' := 19) rfl ?_
    refine g_iload_4 hC dX7_lastOf_19 (pc' := 21) rfl ?_
    refine g_callV3R hC (c_markAt (k := last g s f - 1) hs hf (by omega) hR) ml_X7_64 (sh_M ad) rfl ⟨(Nat.le_of_ble_eq_true rfl), (Nat.le_of_ble_eq_true rfl)⟩ (Nat.le_of_ble_eq_true rfl) dX7_lastOf_21 (pc' := 24) rfl ⟨Nat.zero_le _, Nat.zero_le _⟩ ?_
    refine g_istore_5 hC dX7_lastOf_24 (pc' := 26) rfl (Nat.le_of_ble_eq_true rfl) rfl ?_
    refine g_iload_3 hC dX7_lastOf_26 (pc' := 27) rfl ?_
    refine g_ifN_ne hC dX7_lastOf_27 (pc' := 30) (tgt := 38) (by decide) rfl (by omega) (fun h27 => ?_) (fun h27 => by omega)
    refine g_iload_5 hC dX7_lastOf_38 (pc' := 40) rfl ?_
    refine g_callS1R hC (c_strengthOf bo) ml_X7_71 ⟨(Nat.le_of_ble_eq_true rfl), (Nat.le_of_ble_eq_true rfl)⟩ (Nat.le_of_ble_eq_true rfl) dX7_lastOf_40 (pc' := 43) rfl ⟨Nat.zero_le _, Nat.zero_le _⟩ ?_
    refine g_iretR hC hRt rfl dX7_lastOf_43 ?_
    simp [strI, hl, own]
  · have hl : last g s f = 0 := Decidable.not_not.mp (fun z => h10 ((oI_ge (by omega)).mpr z))
    refine g_bipush hC dX7_lastOf_13 (pc' := 15) kc_bipush_m6 rfl ?_
    refine g_iretR hC hRt rfl dX7_lastOf_15 ?_
    simp [strI, hl, own]

set_option maxHeartbeats 4000000 in
set_option maxRecDepth 100000 in
theorem c_fieldsOf {l : Launch} {ad : Nat → Nat} {X : gX} {s c : Nat} {g : Nat → Nat} (hs : s < 5) (hc : c < 3) (hR : RM X g) (hI : Inv g) : K_X7_fieldsOf l ad [.ref 201, .int (nI s), .int (nI c)] X (pR X (nI (msk (kset g s c) 10))) := by
  refine Ct.of [.ref 201, .int (nI s), .int (nI c), .null, .null] 2 (by decide +kernel) rfl (Nat.le_of_ble_eq_true rfl) (fun F hl hC hRt _ => ?_)
  subst hl
  refine g_iconst hC dX7_fieldsOf_0 (pc' := 1) kc_iconst_0 rfl ?_
  refine g_istore_3 hC dX7_fieldsOf_1 (pc' := 2) rfl (Nat.le_of_ble_eq_true rfl) rfl ?_
  refine g_iconst hC dX7_fieldsOf_2 (pc' := 3) kc_iconst_0 rfl ?_
  refine g_istore_4 hC dX7_fieldsOf_3 (pc' := 5) rfl (Nat.le_of_ble_eq_true rfl) rfl ?_
  have L5 : ∀ k, k ≤ 10 → G F (S0 ad) (0, 0) X 5 [.ref 201, .int (nI s), .int (nI c), .int (nI (msk (kset g s c) k)), .int (nI k)] [] := by
    refine up_ind _ (fun k hk5 ih5 => ?_)
    have bk := kind_le g s k
    refine g_iload_4 hC dX7_fieldsOf_5 (pc' := 7) rfl ?_
    refine g_bipush hC dX7_fieldsOf_7 (pc' := 9) kc_bipush_10 rfl ?_
    refine g_icmpN_ge hC dX7_fieldsOf_9 (pc' := 12) (tgt := 40) (by decide) rfl (by omega) (by omega) (fun h9 => ?_) (fun h9 => ?_)
    · refine g_iload_3 hC dX7_fieldsOf_40 (pc' := 41) rfl ?_
      refine g_iretR hC hRt rfl dX7_fieldsOf_41 ?_
      rw [show k = 10 by omega]
    · refine g_iload_3 hC dX7_fieldsOf_12 (pc' := 13) rfl ?_
      refine g_aload_0 hC dX7_fieldsOf_13 (pc' := 14) rfl ?_
      refine g_iload_1 hC dX7_fieldsOf_14 (pc' := 15) rfl ?_
      refine g_iload_4 hC dX7_fieldsOf_15 (pc' := 17) rfl ?_
      refine g_callV2R hC (c_stateOf (f := k) hs (by omega) hR hI) ml_X7_114 (sh_M ad) rfl ⟨(Nat.le_of_ble_eq_true rfl), (Nat.le_of_ble_eq_true rfl)⟩ (Nat.le_of_ble_eq_true rfl) dX7_fieldsOf_17 (pc' := 20) rfl ⟨Nat.zero_le _, Nat.zero_le _⟩ ?_
      refine g_iload_2 hC dX7_fieldsOf_20 (pc' := 21) rfl ?_
      refine g_icmpN_ne hC dX7_fieldsOf_21 (pc' := 24) (tgt := 31) (by decide) rfl (by omega) (by omega) (fun h21 => ?_) (fun h21 => ?_)
      · refine g_iconst hC dX7_fieldsOf_31 (pc' := 32) kc_iconst_0 rfl ?_
        refine g_iorN hC dX7_fieldsOf_32 (pc' := 33) rfl ?_
        refine g_istore_3 hC dX7_fieldsOf_33 (pc' := 34) rfl (Nat.le_of_ble_eq_true rfl) rfl ?_
        refine g_iinc_4 hC dX7_fieldsOf_34 (pc' := 37) rfl (Nat.le_of_ble_eq_true rfl) rfl (nI_inc _ _ kc_iinc_1) ?_
        refine g_goto hC dX7_fieldsOf_37 (tgt := 5) (by decide) ?_
        exact g_weak (ih5 (by omega)) (gle_s (gle_s (gle_s (gle_i (by simp [msk, kset, h21]) (gle_i (by first | rfl | omega) gle_nil)))))
      · refine g_iconst hC dX7_fieldsOf_24 (pc' := 25) kc_iconst_1 rfl ?_
        refine g_iload_4 hC dX7_fieldsOf_25 (pc' := 27) rfl ?_
        refine g_ishl1 hC dX7_fieldsOf_27 (pc' := 28) rfl (by omega) ?_
        refine g_goto hC dX7_fieldsOf_28 (tgt := 32) (by decide) ?_
        refine g_iorN hC dX7_fieldsOf_32 (pc' := 33) rfl ?_
        refine g_istore_3 hC dX7_fieldsOf_33 (pc' := 34) rfl (Nat.le_of_ble_eq_true rfl) rfl ?_
        refine g_iinc_4 hC dX7_fieldsOf_34 (pc' := 37) rfl (Nat.le_of_ble_eq_true rfl) rfl (nI_inc _ _ kc_iinc_1) ?_
        refine g_goto hC dX7_fieldsOf_37 (tgt := 5) (by decide) ?_
        exact g_weak (ih5 (by omega)) (gle_s (gle_s (gle_s (gle_i (by simp [msk, kset, h21]) (gle_i (by first | rfl | omega) gle_nil)))))
  exact g_weak (L5 0 (by exact Nat.zero_le _)) (gle_s (gle_s (gle_s (gle_i (by first | rfl | omega) (gle_s gle_nil)))))

set_option maxHeartbeats 4000000 in
set_option maxRecDepth 100000 in
theorem c_marksOf {l : Launch} {ad : Nat → Nat} {X : gX} {s : Nat} {b : Bool} {g : Nat → Nat} (hs : s < 5) (hR : RM X g) (hI : Inv g) : K_X7_marksOf l ad [.ref 201, .int (nI s), .int (zI (b))] X (pR X (nI (marks g s b))) := by
  refine Ct.of [.ref 201, .int (nI s), .int (zI (b)), .null, .null, .null] 3 (by decide +kernel) rfl (Nat.le_of_ble_eq_true rfl) (fun F hl hC hRt _ => ?_)
  subst hl
  refine g_iconst hC dX7_marksOf_0 (pc' := 1) kc_iconst_0 rfl ?_
  refine g_istore_3 hC dX7_marksOf_1 (pc' := 2) rfl (Nat.le_of_ble_eq_true rfl) rfl ?_
  refine g_iconst hC dX7_marksOf_2 (pc' := 3) kc_iconst_0 rfl ?_
  refine g_istore_4 hC dX7_marksOf_3 (pc' := 5) rfl (Nat.le_of_ble_eq_true rfl) rfl ?_
  have L5 : ∀ f, f ≤ 10 → G F (S0 ad) (0, 0) X 5 [.ref 201, .int (nI s), .int (zI (b)), .int (nI (smN (mcount g s b) f)), .int (nI f), .null] [] := by
    refine up_ind _ (fun f hk5 ih5 => ?_)
    refine g_iload_4 hC dX7_marksOf_5 (pc' := 7) rfl ?_
    refine g_bipush hC dX7_marksOf_7 (pc' := 9) kc_bipush_10 rfl ?_
    refine g_icmpN_ge hC dX7_marksOf_9 (pc' := 12) (tgt := 66) (by decide) rfl (by omega) (by omega) (fun h9 => ?_) (fun h9 => ?_)
    · refine g_iload_3 hC dX7_marksOf_66 (pc' := 67) rfl ?_
      refine g_iretR hC hRt rfl dX7_marksOf_67 ?_
      rw [show f = 10 by omega]; rfl
    · refine g_iconst hC dX7_marksOf_12 (pc' := 13) kc_iconst_0 rfl ?_
      refine g_istore_5 hC dX7_marksOf_13 (pc' := 15) rfl (Nat.le_of_ble_eq_true rfl) rfl ?_
      have L15 : ∀ k, k ≤ cnt g s f → G F (S0 ad) (0, 0) X 15 [.ref 201, .int (nI s), .int (zI (b)), .int (nI (smN (mcount g s b) f + cnB (mtest g s b f) k)), .int (nI f), .int (nI k)] [] := by
        refine up_ind _ (fun k hk15 ih15 => ?_)
        have bc := hI.c hs (show f < 10 by omega)
        refine g_iload_5 hC dX7_marksOf_15 (pc' := 17) rfl ?_
        refine g_aload_0 hC dX7_marksOf_17 (pc' := 18) rfl ?_
        refine g_iload_1 hC dX7_marksOf_18 (pc' := 19) rfl ?_
        refine g_iload_4 hC dX7_marksOf_19 (pc' := 21) rfl ?_
        refine g_callV2R hC (c_many (f := f) hs (by omega) hR) ml_X7_61 (sh_M ad) rfl ⟨(Nat.le_of_ble_eq_true rfl), (Nat.le_of_ble_eq_true rfl)⟩ (Nat.le_of_ble_eq_true rfl) dX7_marksOf_21 (pc' := 24) rfl ⟨Nat.zero_le _, Nat.zero_le _⟩ ?_
        refine g_icmpN_ge hC dX7_marksOf_24 (pc' := 27) (tgt := 60) (by decide) rfl (by omega) (by omega) (fun h24 => ?_) (fun h24 => ?_)
        · refine g_iinc_4 hC dX7_marksOf_60 (pc' := 63) rfl (Nat.le_of_ble_eq_true rfl) rfl (nI_inc _ _ kc_iinc_1) ?_
          refine g_goto hC dX7_marksOf_63 (tgt := 5) (by decide) ?_
          exact g_weak (ih5 (by omega)) (gle_s (gle_s (gle_s (gle_i (by rw [show k = cnt g s f by omega]; rfl) (gle_i (by first | rfl | omega) (gle_u gle_nil))))))
        · refine g_iload_3 hC dX7_marksOf_27 (pc' := 28) rfl ?_
          refine g_iload_2 hC dX7_marksOf_28 (pc' := 29) rfl ?_
          refine g_ifZ_eq hC dX7_marksOf_29 (pc' := 32) (tgt := 47) (by decide) rfl (fun h29 => ?_) (fun h29 => ?_)
          · refine g_iconst hC dX7_marksOf_47 (pc' := 48) kc_iconst_1 rfl ?_
            refine g_goto hC dX7_marksOf_48 (tgt := 52) (by decide) ?_
            refine g_iaddN hC dX7_marksOf_52 (pc' := 53) rfl ?_
            refine g_istore_3 hC dX7_marksOf_53 (pc' := 54) rfl (Nat.le_of_ble_eq_true rfl) rfl ?_
            refine g_iinc_5 hC dX7_marksOf_54 (pc' := 57) rfl (Nat.le_of_ble_eq_true rfl) rfl (nI_inc _ _ kc_iinc_1) ?_
            refine g_goto hC dX7_marksOf_57 (tgt := 15) (by decide) ?_
            exact g_weak (ih15 (by omega)) (gle_s (gle_s (gle_s (gle_i (by simp [cnB, mtest, *, Nat.add_assoc]) (gle_s (gle_i (by first | rfl | omega) gle_nil))))))
          · refine g_aload_0 hC dX7_marksOf_32 (pc' := 33) rfl ?_
            refine g_iload_1 hC dX7_marksOf_33 (pc' := 34) rfl ?_
            refine g_iload_4 hC dX7_marksOf_34 (pc' := 36) rfl ?_
            refine g_iload_5 hC dX7_marksOf_36 (pc' := 38) rfl ?_
            refine g_callV3R hC (c_markAt (f := f) (k := k) hs (by omega) (by omega) hR) ml_X7_64 (sh_M ad) rfl ⟨(Nat.le_of_ble_eq_true rfl), (Nat.le_of_ble_eq_true rfl)⟩ (Nat.le_of_ble_eq_true rfl) dX7_marksOf_38 (pc' := 41) rfl ⟨Nat.zero_le _, Nat.zero_le _⟩ ?_
            refine g_callS1R hC (c_isStruck (hI.m hs (by omega) (by omega))) ml_X7_68 ⟨(Nat.le_of_ble_eq_true rfl), (Nat.le_of_ble_eq_true rfl)⟩ (Nat.le_of_ble_eq_true rfl) dX7_marksOf_41 (pc' := 44) rfl ⟨Nat.zero_le _, Nat.zero_le _⟩ ?_
            refine g_ifZ_eq hC dX7_marksOf_44 (pc' := 47) (tgt := 51) (by decide) rfl (fun h44 => ?_) (fun h44 => ?_)
            · refine g_iconst hC dX7_marksOf_51 (pc' := 52) kc_iconst_0 rfl ?_
              refine g_iaddN hC dX7_marksOf_52 (pc' := 53) rfl ?_
              refine g_istore_3 hC dX7_marksOf_53 (pc' := 54) rfl (Nat.le_of_ble_eq_true rfl) rfl ?_
              refine g_iinc_5 hC dX7_marksOf_54 (pc' := 57) rfl (Nat.le_of_ble_eq_true rfl) rfl (nI_inc _ _ kc_iinc_1) ?_
              refine g_goto hC dX7_marksOf_57 (tgt := 15) (by decide) ?_
              exact g_weak (ih15 (by omega)) (gle_s (gle_s (gle_s (gle_i (by simp [cnB, mtest, *, Nat.add_assoc]) (gle_s (gle_i (by first | rfl | omega) gle_nil))))))
            · refine g_iconst hC dX7_marksOf_47 (pc' := 48) kc_iconst_1 rfl ?_
              refine g_goto hC dX7_marksOf_48 (tgt := 52) (by decide) ?_
              refine g_iaddN hC dX7_marksOf_52 (pc' := 53) rfl ?_
              refine g_istore_3 hC dX7_marksOf_53 (pc' := 54) rfl (Nat.le_of_ble_eq_true rfl) rfl ?_
              refine g_iinc_5 hC dX7_marksOf_54 (pc' := 57) rfl (Nat.le_of_ble_eq_true rfl) rfl (nI_inc _ _ kc_iinc_1) ?_
              refine g_goto hC dX7_marksOf_57 (tgt := 15) (by decide) ?_
              exact g_weak (ih15 (by omega)) (gle_s (gle_s (gle_s (gle_i (by simp [cnB, mtest, *, Nat.add_assoc]) (gle_s (gle_i (by first | rfl | omega) gle_nil))))))
      exact g_weak (L15 0 (by exact Nat.zero_le _)) (gle_s (gle_s (gle_s (gle_i (by rfl) (gle_s (gle_s gle_nil))))))
  exact g_weak (L5 0 (by exact Nat.zero_le _)) (gle_s (gle_s (gle_s (gle_i (by first | rfl | omega) (gle_s (gle_u gle_nil))))))
