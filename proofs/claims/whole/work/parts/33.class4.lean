theorem ne_toInt {x : Int32} {k : Nat} {i : Int} (hk : k < 2147483648) (hi : (k : Int) = i) (h : ¬ x = nI k) : ¬ i = x.toInt := fun z => h (Int32.toInt_inj.mp (z.symm.trans (hi.symm.trans (nI_toInt hk).symm)))
section
variable {F : gF} {own : String} {cc : ByteArray} {nL : Nat} {rm : Room} {S : gS} {K : Nat × Nat} {X : gX} {pc pc' : Nat} {ls st : List Value}
theorem g_lookX (hC : Cx F own cc nL rm) {dflt : Int} {ps : Array (Int × Int)} {len : Nat} {x : Int32} {off : Int} {tgt : Nat} (d : decode cc pc = .ok (.lookupswitch dflt ps, len)) (hp : (ps.toList.zip (ps.toList.drop 1)).all (fun (a, next) => a.1 < next.1) = true) (ho : Op.lookupswitch.offset ps.toList dflt x.toInt = off) (ht : (pc : Int) + off = (tgt : Int)) (k : G F S K X tgt ls st) : G F S K X pc ls (.int x :: st) := by
  obtain ⟨p, l, e, R, s, m, args, below, meth, c, Γ, A, Q⟩ := F
  obtain ⟨hx0, hb, hml, hown, hts, hlk, rfl, hK, hA⟩ := hC
  intro H locs L hL hc0 hP hD hS
  exact lv_lookup hx0 hb d hp ho ht (k H locs L hL hc0 hP hD hS)
end
def setB (a w : Int32) : Bool := if a = nI 0 then inB w (nI 1) (nI 9) else if a = nI 1 then inB w (nI 0) (nI 5) else false
theorem setB_ok {a w : Int32} : setB a w = okSet a w := by
  unfold setB okSet
  by_cases h0 : a = nI 0
  · rw [if_pos h0, if_pos h0, h0]
    show _ = (inB (nI 0) (nI 0) (nI 1) && _)
    rw [show inB (nI 0) (nI 0) (nI 1) = true by decide, Bool.true_and]
  · rw [if_neg h0, if_neg h0]
    by_cases h1 : a = nI 1
    · rw [if_pos h1, h1, show inB (nI 1) (nI 0) (nI 1) = true by decide, Bool.true_and]
    · rw [if_neg h1]
      cases hi : inB a (nI 0) (nI 1) with
      | false => rfl
      | true =>
        obtain ⟨d, rfl, -, hd⟩ := inB_N (by decide) hi (by decide)
        exfalso
        rcases (show d = 0 ∨ d = 1 by omega) with rfl | rfl
        · exact h0 rfl
        · exact h1 rfl
def barS (g : Nat → Nat) (a p : Int32) : Int32 := if inB a (nI 0) (nI 9) = true then (if inB p (nI 1) (nI 9) = true then (if g 2 < g 3 then nI 0 else -5) else -2) else -1
def barT (g : Nat → Nat) (a : Int32) : Int32 := if inB a (nI 0) (nI 1) = true then (if g 2 < g 3 then nI 0 else -5) else -2
theorem in01 {a : Int32} : inB a (nI 0) (nI 1) = true ↔ a = nI 0 ∨ a = nI 1 := by
  constructor
  · intro hi
    obtain ⟨d, rfl, -, hd⟩ := inB_N (by decide) hi (by decide)
    rcases (show d = 0 ∨ d = 1 by omega) with rfl | rfl
    · exact Or.inl rfl
    · exact Or.inr rfl
  · rintro (rfl | rfl) <;> decide

set_option maxHeartbeats 4000000 in
set_option maxRecDepth 100000 in
theorem c_iW {l : Launch} {ad : Nat → Nat} {X : gX} {v a b : Int32} : K_X6_isWithin l ad [.int (v), .int (a), .int (b)] X (pR X (zI (inB v a b))) := by
  refine Ct.of [.int (v), .int (a), .int (b)] 0 (by decide +kernel) rfl (Nat.le_of_ble_eq_true rfl) (fun F hl hC hRt _ => ?_)
  subst hl
  refine g_iload_0 hC dX6_isWithin_0 (pc' := 1) rfl ?_
  refine g_iload_1 hC dX6_isWithin_1 (pc' := 2) rfl ?_
  refine g_icmp_lt hC dX6_isWithin_2 (pc' := 5) (tgt := 14) (by decide) rfl (fun h2 => ?_) (fun h2 => ?_)
  · refine g_iconst hC dX6_isWithin_14 (pc' := 15) kc_iconst_0 rfl ?_
    refine g_iretR hC hRt nz_0 dX6_isWithin_15 (nI0_z ?_)
    first | exact inB_iff.mpr ⟨Int32.not_lt.mp h2, Int32.not_lt.mp h7⟩ | exact inB_f1 h2 | exact inB_f2 h7
  · refine g_iload_0 hC dX6_isWithin_5 (pc' := 6) rfl ?_
    refine g_iload_2 hC dX6_isWithin_6 (pc' := 7) rfl ?_
    refine g_icmp_gt hC dX6_isWithin_7 (pc' := 10) (tgt := 14) (by decide) rfl (fun h7 => ?_) (fun h7 => ?_)
    · refine g_iconst hC dX6_isWithin_14 (pc' := 15) kc_iconst_0 rfl ?_
      refine g_iretR hC hRt nz_0 dX6_isWithin_15 (nI0_z ?_)
      first | exact inB_iff.mpr ⟨Int32.not_lt.mp h2, Int32.not_lt.mp h7⟩ | exact inB_f1 h2 | exact inB_f2 h7
    · refine g_iconst hC dX6_isWithin_10 (pc' := 11) kc_iconst_1 rfl ?_
      refine g_goto hC dX6_isWithin_11 (tgt := 15) (by decide) ?_
      refine g_iretR hC hRt nz_1 dX6_isWithin_15 (nI1_z ?_)
      first | exact inB_iff.mpr ⟨Int32.not_lt.mp h2, Int32.not_lt.mp h7⟩ | exact inB_f1 h2 | exact inB_f2 h7

set_option maxHeartbeats 4000000 in
set_option maxRecDepth 100000 in
theorem c_iSheet {l : Launch} {ad : Nat → Nat} {X : gX} {v : Int32} : K_X6_isSheet l ad [.int (v)] X (pR X (zI (inB v (nI 0) (nI 4)))) := by
  refine Ct.of [.int (v)] 0 (by decide +kernel) rfl (Nat.le_of_ble_eq_true rfl) (fun F hl hC hRt _ => ?_)
  subst hl
  refine g_iload_0 hC dX6_isSheet_0 (pc' := 1) rfl ?_
  refine g_iconst hC dX6_isSheet_1 (pc' := 2) kc_iconst_0 rfl ?_
  refine g_iconst hC dX6_isSheet_2 (pc' := 3) kc_iconst_4 rfl ?_
  refine g_callS3R hC (c_iW) ml_X6_71 ⟨(Nat.le_of_ble_eq_true rfl), (Nat.le_of_ble_eq_true rfl)⟩ (Nat.le_of_ble_eq_true rfl) dX6_isSheet_3 (pc' := 6) rfl ⟨Nat.zero_le _, Nat.zero_le _⟩ ?_
  refine g_iretR hC hRt (nz_z _) dX6_isSheet_6 ?_
  first | rfl | simp_all | omega

set_option maxHeartbeats 4000000 in
set_option maxRecDepth 100000 in
theorem c_iField {l : Launch} {ad : Nat → Nat} {X : gX} {v : Int32} : K_X6_isField l ad [.int (v)] X (pR X (zI (inB v (nI 0) (nI 9)))) := by
  refine Ct.of [.int (v)] 0 (by decide +kernel) rfl (Nat.le_of_ble_eq_true rfl) (fun F hl hC hRt _ => ?_)
  subst hl
  refine g_iload_0 hC dX6_isField_0 (pc' := 1) rfl ?_
  refine g_iconst hC dX6_isField_1 (pc' := 2) kc_iconst_0 rfl ?_
  refine g_bipush hC dX6_isField_2 (pc' := 4) kc_bipush_9 rfl ?_
  refine g_callS3R hC (c_iW) ml_X6_71 ⟨(Nat.le_of_ble_eq_true rfl), (Nat.le_of_ble_eq_true rfl)⟩ (Nat.le_of_ble_eq_true rfl) dX6_isField_4 (pc' := 7) rfl ⟨Nat.zero_le _, Nat.zero_le _⟩ ?_
  refine g_iretR hC hRt (nz_z _) dX6_isField_7 ?_
  first | rfl | simp_all | omega

set_option maxHeartbeats 4000000 in
set_option maxRecDepth 100000 in
theorem c_iValue {l : Launch} {ad : Nat → Nat} {X : gX} {v : Int32} : K_X6_isValue l ad [.int (v)] X (pR X (zI (inB v (nI 0) (nI 999)))) := by
  refine Ct.of [.int (v)] 0 (by decide +kernel) rfl (Nat.le_of_ble_eq_true rfl) (fun F hl hC hRt _ => ?_)
  subst hl
  refine g_iload_0 hC dX6_isValue_0 (pc' := 1) rfl ?_
  refine g_iconst hC dX6_isValue_1 (pc' := 2) kc_iconst_0 rfl ?_
  refine g_sipush hC dX6_isValue_2 (pc' := 5) kc_sipush_999 rfl ?_
  refine g_callS3R hC (c_iW) ml_X6_71 ⟨(Nat.le_of_ble_eq_true rfl), (Nat.le_of_ble_eq_true rfl)⟩ (Nat.le_of_ble_eq_true rfl) dX6_isValue_5 (pc' := 8) rfl ⟨Nat.zero_le _, Nat.zero_le _⟩ ?_
  refine g_iretR hC hRt (nz_z _) dX6_isValue_8 ?_
  first | rfl | simp_all | omega

set_option maxHeartbeats 4000000 in
set_option maxRecDepth 100000 in
theorem c_iPress {l : Launch} {ad : Nat → Nat} {X : gX} {v : Int32} : K_X6_isPressure l ad [.int (v)] X (pR X (zI (inB v (nI 1) (nI 9)))) := by
  refine Ct.of [.int (v)] 0 (by decide +kernel) rfl (Nat.le_of_ble_eq_true rfl) (fun F hl hC hRt _ => ?_)
  subst hl
  refine g_iload_0 hC dX6_isPressure_0 (pc' := 1) rfl ?_
  refine g_iconst hC dX6_isPressure_1 (pc' := 2) kc_iconst_1 rfl ?_
  refine g_bipush hC dX6_isPressure_2 (pc' := 4) kc_bipush_9 rfl ?_
  refine g_callS3R hC (c_iW) ml_X6_71 ⟨(Nat.le_of_ble_eq_true rfl), (Nat.le_of_ble_eq_true rfl)⟩ (Nat.le_of_ble_eq_true rfl) dX6_isPressure_4 (pc' := 7) rfl ⟨Nat.zero_le _, Nat.zero_le _⟩ ?_
  refine g_iretR hC hRt (nz_z _) dX6_isPressure_7 ?_
  first | rfl | simp_all | omega

set_option maxHeartbeats 4000000 in
set_option maxRecDepth 100000 in
theorem c_iSlot {l : Launch} {ad : Nat → Nat} {X : gX} {v : Int32} : K_X6_isSlot l ad [.int (v)] X (pR X (zI (inB v (nI 0) (nI 1)))) := by
  refine Ct.of [.int (v)] 0 (by decide +kernel) rfl (Nat.le_of_ble_eq_true rfl) (fun F hl hC hRt _ => ?_)
  subst hl
  refine g_iload_0 hC dX6_isSlot_0 (pc' := 1) rfl ?_
  refine g_iconst hC dX6_isSlot_1 (pc' := 2) kc_iconst_0 rfl ?_
  refine g_iconst hC dX6_isSlot_2 (pc' := 3) kc_iconst_1 rfl ?_
  refine g_callS3R hC (c_iW) ml_X6_71 ⟨(Nat.le_of_ble_eq_true rfl), (Nat.le_of_ble_eq_true rfl)⟩ (Nat.le_of_ble_eq_true rfl) dX6_isSlot_3 (pc' := 6) rfl ⟨Nat.zero_le _, Nat.zero_le _⟩ ?_
  refine g_iretR hC hRt (nz_z _) dX6_isSlot_6 ?_
  first | rfl | simp_all | omega

set_option maxHeartbeats 4000000 in
set_option maxRecDepth 100000 in
theorem c_iSet {l : Launch} {ad : Nat → Nat} {X : gX} {a w : Int32} : K_X6_isSettingWith l ad [.int (a), .int (w)] X (pR X (zI (setB a w))) := by
  refine Ct.of [.int (a), .int (w)] 0 (by decide +kernel) rfl (Nat.le_of_ble_eq_true rfl) (fun F hl hC hRt _ => ?_)
  subst hl
  refine g_iload_0 hC dX6_isSettingWith_0 (pc' := 1) rfl ?_
  by_cases s1_0 : a = nI 0
  · subst s1_0
    refine g_lookN hC dX6_isSettingWith_1 (by decide) (by decide) (off := 27) (by decide) (tgt := 28) (by decide) ?_
    refine g_iload_1 hC dX6_isSettingWith_28 (pc' := 29) rfl ?_
    refine g_iconst hC dX6_isSettingWith_29 (pc' := 30) kc_iconst_1 rfl ?_
    refine g_bipush hC dX6_isSettingWith_30 (pc' := 32) kc_bipush_9 rfl ?_
    refine g_callS3R hC (c_iW) ml_X6_71 ⟨(Nat.le_of_ble_eq_true rfl), (Nat.le_of_ble_eq_true rfl)⟩ (Nat.le_of_ble_eq_true rfl) dX6_isSettingWith_32 (pc' := 35) rfl ⟨Nat.zero_le _, Nat.zero_le _⟩ ?_
    refine g_iretR hC hRt (nz_z _) dX6_isSettingWith_35 ?_
    rfl
  by_cases s1_1 : a = nI 1
  · subst s1_1
    refine g_lookN hC dX6_isSettingWith_1 (by decide) (by decide) (off := 35) (by decide) (tgt := 36) (by decide) ?_
    refine g_iload_1 hC dX6_isSettingWith_36 (pc' := 37) rfl ?_
    refine g_iconst hC dX6_isSettingWith_37 (pc' := 38) kc_iconst_0 rfl ?_
    refine g_iconst hC dX6_isSettingWith_38 (pc' := 39) kc_iconst_5 rfl ?_
    refine g_callS3R hC (c_iW) ml_X6_71 ⟨(Nat.le_of_ble_eq_true rfl), (Nat.le_of_ble_eq_true rfl)⟩ (Nat.le_of_ble_eq_true rfl) dX6_isSettingWith_39 (pc' := 42) rfl ⟨Nat.zero_le _, Nat.zero_le _⟩ ?_
    refine g_iretR hC hRt (nz_z _) dX6_isSettingWith_42 ?_
    rfl
  refine g_lookX hC dX6_isSettingWith_1 (by decide) (off := 42) (by have e0 := ne_toInt (k := 0) (i := 0) (by decide) rfl s1_0; have e1 := ne_toInt (k := 1) (i := 1) (by decide) rfl s1_1; simp [Op.lookupswitch.offset, e0, e1]) (tgt := 43) (by decide) ?_
  refine g_iconst hC dX6_isSettingWith_43 (pc' := 44) kc_iconst_0 rfl ?_
  refine g_iretR hC hRt nz_0 dX6_isSettingWith_44 (nI0_z ?_)
  unfold setB; rw [if_neg s1_0, if_neg s1_1]

set_option maxHeartbeats 4000000 in
set_option maxRecDepth 100000 in
theorem c_tBarW {l : Launch} {ad : Nat → Nat} {X : gX} {B : Nat} {g : Nat → Nat} (hB : isB B) (hR : RS X B g) (hI : Inv g) {a v p : Int32}  : K_X4_refusalToWrite l ad [.ref B, .int (a), .int (v), .int (p)] X (fun rr X' => rr = barI g a v p ∧ ∀ i, i ≠ B + 3 → X' i = X i) := by
  refine Ct.of [.ref B, .int (a), .int (v), .int (p), .null] 1 (by decide +kernel) rfl (Nat.le_of_ble_eq_true rfl) (fun F hl hC hRt _ => ?_)
  subst hl
  have b23 : g 2 ≤ g 3 ∧ g 3 ≤ 5 := hI.1.2.2
  refine g_iload_1 hC dX4_refusalToWrite_0 (pc' := 1) rfl ?_
  refine g_callN1R hC (c_iField) ml_X4_55 ⟨(Nat.le_of_ble_eq_true rfl), (Nat.le_of_ble_eq_true rfl)⟩ (Nat.le_of_ble_eq_true rfl) dX4_refusalToWrite_1 (pc' := 4) rfl ⟨Nat.zero_le _, Nat.zero_le _⟩ ?_
  refine g_ifZ_ne hC dX4_refusalToWrite_4 (pc' := 7) (tgt := 9) (by decide) rfl (fun h4 => ?_) (fun h4 => ?_)
  · obtain ⟨f, rfl, -, hf⟩ := inB_N (by decide) h4 (by decide)
    have cf : cl (nI f) = f := cl_nI (by omega)
    refine g_iload_2 hC dX4_refusalToWrite_9 (pc' := 10) rfl ?_
    refine g_callN1R hC (c_iValue) ml_X4_58 ⟨(Nat.le_of_ble_eq_true rfl), (Nat.le_of_ble_eq_true rfl)⟩ (Nat.le_of_ble_eq_true rfl) dX4_refusalToWrite_10 (pc' := 13) rfl ⟨Nat.zero_le _, Nat.zero_le _⟩ ?_
    refine g_ifZ_eq hC dX4_refusalToWrite_13 (pc' := 16) (tgt := 23) (by decide) rfl (fun h13 => ?_) (fun h13 => ?_)
    · refine g_bipush hC dX4_refusalToWrite_23 (pc' := 25) kc_bipush_m2 rfl ?_
      refine g_iretI hC hRt rfl dX4_refusalToWrite_25 ?_
      refine ⟨?_, fun _ _ => rfl⟩
      simp only [barI, cl_nI, h4, cf, h13, ↓reduceIte, Bool.false_eq_true]
    · obtain ⟨w, rfl, -, hw⟩ := inB_N (by decide) h13 (by decide)
      have cw : cl (nI w) = w := cl_nI (by omega)
      refine g_iload_3 hC dX4_refusalToWrite_16 (pc' := 17) rfl ?_
      refine g_callN1R hC (c_iPress) ml_X4_61 ⟨(Nat.le_of_ble_eq_true rfl), (Nat.le_of_ble_eq_true rfl)⟩ (Nat.le_of_ble_eq_true rfl) dX4_refusalToWrite_17 (pc' := 20) rfl ⟨Nat.zero_le _, Nat.zero_le _⟩ ?_
      refine g_ifZ_ne hC dX4_refusalToWrite_20 (pc' := 23) (tgt := 26) (by decide) rfl (fun h20 => ?_) (fun h20 => ?_)
      · obtain ⟨q, rfl, hq1, hq⟩ := inB_N (by decide) h20 (by decide)
        have cq : cl (nI q) = q := cl_nI (by omega)
        refine g_aload_0 hC dX4_refusalToWrite_26 (pc' := 27) rfl ?_
        refine g_callV0R hC (c_tEmpty hB hR hI) ml_X4_64 (sh_st ad hB) rfl ⟨(Nat.le_of_ble_eq_true rfl), (Nat.le_of_ble_eq_true rfl)⟩ (Nat.le_of_ble_eq_true rfl) dX4_refusalToWrite_27 (pc' := 30) rfl ⟨Nat.zero_le _, Nat.zero_le _⟩ ?_
        refine g_ifZ_eq hC dX4_refusalToWrite_30 (pc' := 33) (tgt := 36) (by decide) rfl (fun h30 => ?_) (fun h30 => ?_)
        · have h30b : g 2 < g 3 := Decidable.not_not.mp (of_decide_eq_false h30)
          refine g_aload_0 hC dX4_refusalToWrite_36 (pc' := 37) rfl ?_
          refine g_iload_3 hC dX4_refusalToWrite_37 (pc' := 38) rfl ?_
          refine g_callV1V hC (c_tMeasure hB hR hI hq) ml_X4_68 (sh_st ad hB) rfl ⟨(Nat.le_of_ble_eq_true rfl), (Nat.le_of_ble_eq_true rfl)⟩ (Nat.le_of_ble_eq_true rfl) dX4_refusalToWrite_38 (pc' := 41) rfl ⟨Nat.zero_le _, Nat.zero_le _⟩ (fun X38 q38 => ?_)
          obtain ⟨hA, hX⟩ := q38
          have hR2 := hR.arr hX
          refine g_iconst hC dX4_refusalToWrite_41 (pc' := 42) kc_iconst_0 rfl ?_
          refine g_istore_4 hC dX4_refusalToWrite_42 (pc' := 44) rfl (Nat.le_of_ble_eq_true rfl) rfl ?_
          have L44 : ∀ t, t ≤ 5 → anB (fun t => hit g q t && decide (8 ≤ cnt g t f)) t = false → G F (S0 ad) (0, 0) X38 44 [.ref B, .int (nI f), .int (nI w), .int (nI q), .int (nI t)] [] := by
            refine up_ind _ (fun t hk44 ih44 => ?_)
            intro hb
            refine g_iload_4 hC dX4_refusalToWrite_44 (pc' := 46) rfl ?_
            refine g_iconst hC dX4_refusalToWrite_46 (pc' := 47) kc_iconst_5 rfl ?_
            refine g_icmpN_ge hC dX4_refusalToWrite_47 (pc' := 50) (tgt := 83) (by decide) rfl (by omega) (by omega) (fun h47 => ?_) (fun h47 => ?_)
            · refine g_iconst hC dX4_refusalToWrite_83 (pc' := 84) kc_iconst_0 rfl ?_
              refine g_iretI hC hRt rfl dX4_refusalToWrite_84 ?_
              refine ⟨?_, hX⟩
              rw [show t = 5 by omega] at hb
              have hfu : full g f q = false := hb
              simp only [barI, hfu, cl_nI, h4, cf, h13, cw, h20, cq, h30, eq_true h30b, ↓reduceIte, Bool.false_eq_true]
            · have ba := arv_le g q t
              refine g_aload_0 hC dX4_refusalToWrite_50 (pc' := 51) rfl ?_
              refine g_getR hC fl_X4_28 (sh_st ad hB) rfl dX4_refusalToWrite_51 (pc' := 54) rfl ?_
              refine g_iload_4 hC dX4_refusalToWrite_54 (pc' := 56) rfl ?_
              refine g_iald hC (sh_st3 ad hB) (Nat.le_of_ble_eq_true rfl) (by omega) (hA t (by omega)) dX4_refusalToWrite_56 (pc' := 57) rfl ?_
              refine g_ifN_le hC dX4_refusalToWrite_57 (pc' := 60) (tgt := 77) (by decide) rfl (by omega) (fun h57 => ?_) (fun h57 => ?_)
              · have hz : (hit g q t && decide (8 ≤ cnt g t f)) = false := by simp [hit]; omega
                refine g_iinc_4 hC dX4_refusalToWrite_77 (pc' := 80) rfl (Nat.le_of_ble_eq_true rfl) rfl (nI_inc _ _ kc_iinc_1) ?_
                refine g_goto hC dX4_refusalToWrite_80 (tgt := 44) (by decide) ?_
                exact g_weak (ih44 (by omega) ((anB_f hz).trans hb)) (gle_s (gle_s (gle_s (gle_s (gle_i (by first | rfl | omega) gle_nil)))))
              · refine g_aload_0 hC dX4_refusalToWrite_60 (pc' := 61) rfl ?_
                refine g_getR hC fl_X4_11 (sh_st ad hB) rfl dX4_refusalToWrite_61 (pc' := 64) rfl ?_
                refine g_iload_4 hC dX4_refusalToWrite_64 (pc' := 66) rfl ?_
                refine g_aald4 hC (sh_st1 ad hB) (Nat.le_of_ble_eq_true rfl) (by omega) (sheets_at (by omega)) dX4_refusalToWrite_66 (pc' := 67) rfl ?_
                refine g_iload_1 hC dX4_refusalToWrite_67 (pc' := 68) rfl ?_
                refine g_callV1R hC (c_sRoom hB (t := t) (by omega) (show f < 10 by omega) ((hR2.2.2 t (by omega)).2.1 f (by omega)) (hI.c (by omega) (by omega))) ml_X4_72 (sh_sheet ad hB (by omega)) rfl ⟨(Nat.le_of_ble_eq_true rfl), (Nat.le_of_ble_eq_true rfl)⟩ (Nat.le_of_ble_eq_true rfl) dX4_refusalToWrite_68 (pc' := 71) rfl ⟨Nat.zero_le _, Nat.zero_le _⟩ ?_
                refine g_ifZ_ne hC dX4_refusalToWrite_71 (pc' := 74) (tgt := 77) (by decide) rfl (fun h71 => ?_) (fun h71 => ?_)
                · have hz : (hit g q t && decide (8 ≤ cnt g t f)) = false := by simp at h71; simp; omega
                  refine g_iinc_4 hC dX4_refusalToWrite_77 (pc' := 80) rfl (Nat.le_of_ble_eq_true rfl) rfl (nI_inc _ _ kc_iinc_1) ?_
                  refine g_goto hC dX4_refusalToWrite_80 (tgt := 44) (by decide) ?_
                  exact g_weak (ih44 (by omega) ((anB_f hz).trans hb)) (gle_s (gle_s (gle_s (gle_s (gle_i (by first | rfl | omega) gle_nil)))))
                · have hz : (hit g q t && decide (8 ≤ cnt g t f)) = true := by simp at h71; simp [hit]; omega
                  refine g_bipush hC dX4_refusalToWrite_74 (pc' := 76) kc_bipush_m4 rfl ?_
                  refine g_iretI hC hRt rfl dX4_refusalToWrite_76 ?_
                  refine ⟨?_, hX⟩
                  have hfu : full g f q = true := anB_iff.mpr ⟨t, by omega, hz⟩
                  simp only [barI, hfu, cl_nI, h4, cf, h13, cw, h20, cq, h30, eq_true h30b, h71, ↓reduceIte, Bool.false_eq_true]
          exact g_weak (L44 0 (by exact Nat.zero_le _) rfl) (gle_s (gle_s (gle_s (gle_s (gle_s gle_nil)))))
        · have h30b : ¬ g 2 < g 3 := of_decide_eq_true h30
          refine g_bipush hC dX4_refusalToWrite_33 (pc' := 35) kc_bipush_m5 rfl ?_
          refine g_iretI hC hRt rfl dX4_refusalToWrite_35 ?_
          refine ⟨?_, fun _ _ => rfl⟩
          simp only [barI, cl_nI, h4, cf, h13, cw, h20, cq, h30, eq_false h30b, ↓reduceIte, Bool.false_eq_true]
      · refine g_bipush hC dX4_refusalToWrite_23 (pc' := 25) kc_bipush_m2 rfl ?_
        refine g_iretI hC hRt rfl dX4_refusalToWrite_25 ?_
        refine ⟨?_, fun _ _ => rfl⟩
        simp only [barI, cl_nI, h4, cf, h13, cw, h20, ↓reduceIte, Bool.false_eq_true]
  · refine g_iconst hC dX4_refusalToWrite_7 (pc' := 8) kc_iconst_m1 rfl ?_
    refine g_iretI hC hRt rfl dX4_refusalToWrite_8 ?_
    refine ⟨?_, fun _ _ => rfl⟩
    simp only [barI, cl_nI, h4, ↓reduceIte, Bool.false_eq_true]

set_option maxHeartbeats 4000000 in
set_option maxRecDepth 100000 in
theorem c_tBarS {l : Launch} {ad : Nat → Nat} {X : gX} {B : Nat} {g : Nat → Nat} (hB : isB B) (hR : RS X B g) (hI : Inv g) {a p : Int32}  : K_X4_refusalToStrike l ad [.ref B, .int (a), .int (p)] X (pR X (barS g a p)) := by
  refine Ct.of [.ref B, .int (a), .int (p)] 0 (by decide +kernel) rfl (Nat.le_of_ble_eq_true rfl) (fun F hl hC hRt _ => ?_)
  subst hl
  have b23 : g 2 ≤ g 3 ∧ g 3 ≤ 5 := hI.1.2.2
  refine g_iload_1 hC dX4_refusalToStrike_0 (pc' := 1) rfl ?_
  refine g_callN1R hC (c_iField) ml_X4_55 ⟨(Nat.le_of_ble_eq_true rfl), (Nat.le_of_ble_eq_true rfl)⟩ (Nat.le_of_ble_eq_true rfl) dX4_refusalToStrike_1 (pc' := 4) rfl ⟨Nat.zero_le _, Nat.zero_le _⟩ ?_
  refine g_ifZ_ne hC dX4_refusalToStrike_4 (pc' := 7) (tgt := 9) (by decide) rfl (fun h4 => ?_) (fun h4 => ?_)
  · refine g_iload_2 hC dX4_refusalToStrike_9 (pc' := 10) rfl ?_
    refine g_callN1R hC (c_iPress) ml_X4_61 ⟨(Nat.le_of_ble_eq_true rfl), (Nat.le_of_ble_eq_true rfl)⟩ (Nat.le_of_ble_eq_true rfl) dX4_refusalToStrike_10 (pc' := 13) rfl ⟨Nat.zero_le _, Nat.zero_le _⟩ ?_
    refine g_ifZ_ne hC dX4_refusalToStrike_13 (pc' := 16) (tgt := 19) (by decide) rfl (fun h13 => ?_) (fun h13 => ?_)
    · refine g_aload_0 hC dX4_refusalToStrike_19 (pc' := 20) rfl ?_
      refine g_callV0R hC (c_tEmpty hB hR hI) ml_X4_64 (sh_st ad hB) rfl ⟨(Nat.le_of_ble_eq_true rfl), (Nat.le_of_ble_eq_true rfl)⟩ (Nat.le_of_ble_eq_true rfl) dX4_refusalToStrike_20 (pc' := 23) rfl ⟨Nat.zero_le _, Nat.zero_le _⟩ ?_
      refine g_ifZ_eq hC dX4_refusalToStrike_23 (pc' := 26) (tgt := 31) (by decide) rfl (fun h23 => ?_) (fun h23 => ?_)
      · have h23b : g 2 < g 3 := Decidable.not_not.mp (of_decide_eq_false h23)
        refine g_iconst hC dX4_refusalToStrike_31 (pc' := 32) kc_iconst_0 rfl ?_
        refine g_iretR hC hRt rfl dX4_refusalToStrike_32 ?_
        simp only [barS, cl_nI, h4, h13, h23, eq_true h23b, ↓reduceIte, Bool.false_eq_true]
      · have h23b : ¬ g 2 < g 3 := of_decide_eq_true h23
        refine g_bipush hC dX4_refusalToStrike_26 (pc' := 28) kc_bipush_m5 rfl ?_
        refine g_goto hC dX4_refusalToStrike_28 (tgt := 32) (by decide) ?_
        refine g_iretR hC hRt rfl dX4_refusalToStrike_32 ?_
        simp only [barS, cl_nI, h4, h13, h23, eq_false h23b, ↓reduceIte, Bool.false_eq_true]
    · refine g_bipush hC dX4_refusalToStrike_16 (pc' := 18) kc_bipush_m2 rfl ?_
      refine g_iretR hC hRt rfl dX4_refusalToStrike_18 ?_
      simp only [barS, cl_nI, h4, h13, ↓reduceIte, Bool.false_eq_true]
  · refine g_iconst hC dX4_refusalToStrike_7 (pc' := 8) kc_iconst_m1 rfl ?_
    refine g_iretR hC hRt rfl dX4_refusalToStrike_8 ?_
    simp only [barS, cl_nI, h4, ↓reduceIte, Bool.false_eq_true]

set_option maxHeartbeats 4000000 in
set_option maxRecDepth 100000 in
theorem c_tBarT {l : Launch} {ad : Nat → Nat} {X : gX} {B : Nat} {g : Nat → Nat} (hB : isB B) (hR : RS X B g) (hI : Inv g) {a : Int32}  : K_X4_refusalToTear l ad [.ref B, .int (a)] X (pR X (barT g a)) := by
  refine Ct.of [.ref B, .int (a)] 0 (by decide +kernel) rfl (Nat.le_of_ble_eq_true rfl) (fun F hl hC hRt _ => ?_)
  subst hl
  have b23 : g 2 ≤ g 3 ∧ g 3 ≤ 5 := hI.1.2.2
  refine g_iload_1 hC dX4_refusalToTear_0 (pc' := 1) rfl ?_
  refine g_ifI_eq hC dX4_refusalToTear_1 (pc' := 4) (tgt := 12) (by decide) rfl (fun h1 => ?_) (fun h1 => ?_)
  · have h01 := in01.mpr (Or.inl h1)
    refine g_aload_0 hC dX4_refusalToTear_12 (pc' := 13) rfl ?_
    refine g_callV0R hC (c_tEmpty hB hR hI) ml_X4_64 (sh_st ad hB) rfl ⟨(Nat.le_of_ble_eq_true rfl), (Nat.le_of_ble_eq_true rfl)⟩ (Nat.le_of_ble_eq_true rfl) dX4_refusalToTear_13 (pc' := 16) rfl ⟨Nat.zero_le _, Nat.zero_le _⟩ ?_
    refine g_ifZ_eq hC dX4_refusalToTear_16 (pc' := 19) (tgt := 24) (by decide) rfl (fun h16 => ?_) (fun h16 => ?_)
    · have h16b : g 2 < g 3 := Decidable.not_not.mp (of_decide_eq_false h16)
      refine g_iconst hC dX4_refusalToTear_24 (pc' := 25) kc_iconst_0 rfl ?_
      refine g_iretR hC hRt rfl dX4_refusalToTear_25 ?_
      unfold barT; rw [h01]; simp only [*, ↓reduceIte, Bool.false_eq_true]
    · have h16b : ¬ g 2 < g 3 := of_decide_eq_true h16
      refine g_bipush hC dX4_refusalToTear_19 (pc' := 21) kc_bipush_m5 rfl ?_
      refine g_goto hC dX4_refusalToTear_21 (tgt := 25) (by decide) ?_
      refine g_iretR hC hRt rfl dX4_refusalToTear_25 ?_
      unfold barT; rw [h01]; simp only [*, ↓reduceIte, Bool.false_eq_true]
  · refine g_iload_1 hC dX4_refusalToTear_4 (pc' := 5) rfl ?_
    refine g_iconst hC dX4_refusalToTear_5 (pc' := 6) kc_iconst_1 rfl ?_
    refine g_icmp_eq hC dX4_refusalToTear_6 (pc' := 9) (tgt := 12) (by decide) rfl (fun h6 => ?_) (fun h6 => ?_)
    · have h01 := in01.mpr (Or.inr h6)
      refine g_aload_0 hC dX4_refusalToTear_12 (pc' := 13) rfl ?_
      refine g_callV0R hC (c_tEmpty hB hR hI) ml_X4_64 (sh_st ad hB) rfl ⟨(Nat.le_of_ble_eq_true rfl), (Nat.le_of_ble_eq_true rfl)⟩ (Nat.le_of_ble_eq_true rfl) dX4_refusalToTear_13 (pc' := 16) rfl ⟨Nat.zero_le _, Nat.zero_le _⟩ ?_
      refine g_ifZ_eq hC dX4_refusalToTear_16 (pc' := 19) (tgt := 24) (by decide) rfl (fun h16 => ?_) (fun h16 => ?_)
      · have h16b : g 2 < g 3 := Decidable.not_not.mp (of_decide_eq_false h16)
        refine g_iconst hC dX4_refusalToTear_24 (pc' := 25) kc_iconst_0 rfl ?_
        refine g_iretR hC hRt rfl dX4_refusalToTear_25 ?_
        unfold barT; rw [h01]; simp only [*, ↓reduceIte, Bool.false_eq_true]
      · have h16b : ¬ g 2 < g 3 := of_decide_eq_true h16
        refine g_bipush hC dX4_refusalToTear_19 (pc' := 21) kc_bipush_m5 rfl ?_
        refine g_goto hC dX4_refusalToTear_21 (tgt := 25) (by decide) ?_
        refine g_iretR hC hRt rfl dX4_refusalToTear_25 ?_
        unfold barT; rw [h01]; simp only [*, ↓reduceIte, Bool.false_eq_true]
    · have h01 : inB a (nI 0) (nI 1) = false := Bool.eq_false_iff.mpr (fun z => (in01.mp z).elim h1 h6)
      refine g_bipush hC dX4_refusalToTear_9 (pc' := 11) kc_bipush_m2 rfl ?_
      refine g_iretR hC hRt rfl dX4_refusalToTear_11 ?_
      unfold barT; rw [h01]; simp only [*, ↓reduceIte, Bool.false_eq_true]
