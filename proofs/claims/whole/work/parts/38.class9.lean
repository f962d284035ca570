theorem tab_ne {j m k : Nat} (h : (j : Int) ≤ (m : Int)) (hk : m < k) (hk2 : k < 2147483648) : nI k ≠ nI j := fun z => by
  have := congrArg Int32.toInt z
  rw [nI_toInt hk2, nI_toInt (by omega)] at this
  omega
def QK (q : PSt) : Prop := q.1 ≤ 7 ∧ (1 ≤ q.1 → q.2.1 = 119 ∨ q.2.1 = 115 ∨ (q.1 = 7 ∧ (q.2.1 = 116 ∨ q.2.1 = 98))) ∧ (2 ≤ q.1 ∧ q.1 ≤ 4 → q.2.1 = 119) ∧ (q.1 = 5 → q.2.1 = 115) ∧ (q.1 = 4 → q.2.2.2.1 ≤ 999)
/-- the class's reader is where q says; what it holds from earlier doesn't matter -/
def RO (X : gX) (q : PSt) : Prop := QK q ∧ X 162 4 = nI q.1 ∧ (1 ≤ q.1 → X 162 0 = nI q.2.1) ∧ (2 ≤ q.1 → q.2.1 = 119 ∨ q.2.1 = 115 → X 162 1 = nI q.2.2.1) ∧ (4 ≤ q.1 → q.2.1 = 119 → X 162 2 = nI q.2.2.2.1) ∧ (q.1 = 7 → q.2.1 = 119 ∨ q.2.1 = 115 → X 162 3 = nI q.2.2.2.2)
def TK (q : PSt) (c : Nat) (X : gX) (rr : Int32) (X' : gX) : Prop := ((∃ q', stp q c = some q' ∧ rr = zI true ∧ RO X' q') ∨ (stp q c = none ∧ rr = zI false)) ∧ ∀ i, i ≠ 162 → X' i = X i
theorem TK.b {q : PSt} {c : Nat} {X X' : gX} {rr : Int32} (h : TK q c X rr X') : ∃ b, rr = zI b := by
  rcases h.1 with ⟨q', -, h, -⟩ | ⟨-, h⟩
  · exact ⟨true, h⟩
  · exact ⟨false, h⟩
theorem RO.of {X Y : gX} {q : PSt} (h : RO X q) (e : Y 162 = X 162) : RO Y q := by unfold RO at *; rw [e]; exact h
theorem RO_0 {X : gX} : RO (gu X 162 4 (nI 0)) (0, 0, 0, 0, 0) := ⟨⟨Nat.zero_le _, fun h => absurd h (by decide), fun h => absurd h.1 (by decide), fun h => absurd h (by decide), fun h => absurd h (by decide)⟩, gu_at, fun h => absurd h (by decide), fun h => absurd h (by decide), fun h => absurd h (by decide), fun h => absurd h (by decide)⟩

set_option maxHeartbeats 4000000 in
set_option maxRecDepth 100000 in
theorem c_begin {l : Launch} {ad : Nat → Nat} {X : gX}  : K_X1_begin l ad [.ref 162] X (fun X' => X' = gu X 162 4 (nI 0)) := by
  refine Ct.of [.ref 162] 0 (by decide +kernel) rfl (Nat.le_of_ble_eq_true rfl) (fun F hl hC hRt _ => ?_)
  subst hl
  refine g_aload_0 hC dX1_begin_0 (pc' := 1) rfl ?_
  refine g_iconst hC dX1_begin_1 (pc' := 2) kc_iconst_0 rfl ?_
  refine g_putI hC fl_X1_11 (sh_reader ad) rfl rfl rfl dX1_begin_2 (pc' := 5) rfl ?_
  refine g_vretV hC hRt dX1_begin_5 ?_
  rfl

set_option maxHeartbeats 4000000 in
set_option maxRecDepth 100000 in
theorem c_isAfter {l : Launch} {ad : Nat → Nat} {X : gX} {q : PSt} (hq : RO X q) : K_X1_isAfterOrder l ad [.ref 162] X (pR X (zI (decide (q.1 = 7)))) := by
  refine Ct.of [.ref 162] 0 (by decide +kernel) rfl (Nat.le_of_ble_eq_true rfl) (fun F hl hC hRt _ => ?_)
  subst hl
  have h7 := hq.1.1
  refine g_aload_0 hC dX1_isAfterOrder_0 (pc' := 1) rfl ?_
  refine g_getI hC fl_X1_11 (sh_reader ad) rfl (hq.2.1) dX1_isAfterOrder_1 (pc' := 4) rfl ?_
  refine g_bipush hC dX1_isAfterOrder_4 (pc' := 6) kc_bipush_7 rfl ?_
  refine g_icmpN_ne hC dX1_isAfterOrder_6 (pc' := 9) (tgt := 13) (by decide) rfl (by omega) (by omega) (fun h6 => ?_) (fun h6 => ?_)
  · refine g_iconst hC dX1_isAfterOrder_13 (pc' := 14) kc_iconst_0 rfl ?_
    refine g_iretR hC hRt nz_0 dX1_isAfterOrder_14 (nI0_z ?_)
    simp; omega
  · refine g_iconst hC dX1_isAfterOrder_9 (pc' := 10) kc_iconst_1 rfl ?_
    refine g_goto hC dX1_isAfterOrder_10 (tgt := 14) (by decide) ?_
    refine g_iretR hC hRt nz_1 dX1_isAfterOrder_14 (nI1_z ?_)
    simp; omega

set_option maxHeartbeats 4000000 in
set_option maxRecDepth 100000 in
theorem c_goesOn {l : Launch} {ad : Nat → Nat} {X : gX} {b : Bool} {nx : Nat} : K_X1_goesOn l ad [.ref 162, .int (zI (b)), .int (nI nx)] X (fun rr X' => rr = zI b ∧ X' = if b = true then gu X 162 4 (nI nx) else X) := by
  refine Ct.of [.ref 162, .int (zI (b)), .int (nI nx)] 0 (by decide +kernel) rfl (Nat.le_of_ble_eq_true rfl) (fun F hl hC hRt _ => ?_)
  subst hl
  refine g_iload_1 hC dX1_goesOn_0 (pc' := 1) rfl ?_
  refine g_ifZ_eq hC dX1_goesOn_1 (pc' := 4) (tgt := 9) (by decide) rfl (fun h1 => ?_) (fun h1 => ?_)
  · refine g_iload_1 hC dX1_goesOn_9 (pc' := 10) rfl ?_
    refine g_iretI hC hRt (nz_z _) dX1_goesOn_10 ?_
    rw [h1]; exact ⟨rfl, rfl⟩
  · refine g_aload_0 hC dX1_goesOn_4 (pc' := 5) rfl ?_
    refine g_iload_2 hC dX1_goesOn_5 (pc' := 6) rfl ?_
    refine g_putI hC fl_X1_11 (sh_reader ad) rfl rfl rfl dX1_goesOn_6 (pc' := 9) rfl ?_
    refine g_iload_1 hC dX1_goesOn_9 (pc' := 10) rfl ?_
    refine g_iretI hC hRt (nz_z _) dX1_goesOn_10 ?_
    rw [h1]; exact ⟨rfl, rfl⟩

set_option maxHeartbeats 4000000 in
set_option maxRecDepth 100000 in
theorem c_isDigit {l : Launch} {ad : Nat → Nat} {X : gX} {c : Nat} (hc : c ≤ 126) : K_X1_isDigit l ad [.int (nI c)] X (pR X (zI (dgB 0 9 c))) := by
  refine Ct.of [.int (nI c)] 0 (by decide +kernel) rfl (Nat.le_of_ble_eq_true rfl) (fun F hl hC hRt _ => ?_)
  subst hl
  refine g_iload_0 hC dX1_isDigit_0 (pc' := 1) rfl ?_
  refine g_bipush hC dX1_isDigit_1 (pc' := 3) kc_bipush_48 rfl ?_
  refine g_icmpN_lt hC dX1_isDigit_3 (pc' := 6) (tgt := 16) (by decide) rfl (by omega) (by omega) (fun h3 => ?_) (fun h3 => ?_)
  · refine g_iconst hC dX1_isDigit_16 (pc' := 17) kc_iconst_0 rfl ?_
    refine g_iretR hC hRt nz_0 dX1_isDigit_17 (nI0_z ?_)
    simp [dgB]; omega
  · refine g_iload_0 hC dX1_isDigit_6 (pc' := 7) rfl ?_
    refine g_bipush hC dX1_isDigit_7 (pc' := 9) kc_bipush_57 rfl ?_
    refine g_icmpN_gt hC dX1_isDigit_9 (pc' := 12) (tgt := 16) (by decide) rfl (by omega) (by omega) (fun h9 => ?_) (fun h9 => ?_)
    · refine g_iconst hC dX1_isDigit_16 (pc' := 17) kc_iconst_0 rfl ?_
      refine g_iretR hC hRt nz_0 dX1_isDigit_17 (nI0_z ?_)
      simp [dgB]; omega
    · refine g_iconst hC dX1_isDigit_12 (pc' := 13) kc_iconst_1 rfl ?_
      refine g_goto hC dX1_isDigit_13 (tgt := 17) (by decide) ?_
      refine g_iretR hC hRt nz_1 dX1_isDigit_17 (nI1_z ?_)
      simp [dgB]; omega

set_option maxHeartbeats 4000000 in
set_option maxRecDepth 100000 in
theorem c_tkKind {l : Launch} {ad : Nat → Nat} {X : gX} {q : PSt} {c : Nat} (hq : RO X q) (hc : c ≤ 126) (he : q.1 = 0) : K_X1_takesKind l ad [.ref 162, .int (nI c)] X (TK q c X) := by
  refine Ct.of [.ref 162, .int (nI c)] 0 (by decide +kernel) rfl (Nat.le_of_ble_eq_true rfl) (fun F hl hC hRt _ => ?_)
  subst hl
  refine g_aload_0 hC dX1_takesKind_0 (pc' := 1) rfl ?_
  refine g_iload_1 hC dX1_takesKind_1 (pc' := 2) rfl ?_
  refine g_putI hC fl_X1_35 (sh_reader ad) rfl rfl rfl dX1_takesKind_2 (pc' := 5) rfl ?_
  refine g_iload_1 hC dX1_takesKind_5 (pc' := 6) rfl ?_
  refine g_bipush hC dX1_takesKind_6 (pc' := 8) kc_bipush_119 rfl ?_
  refine g_icmpN_eq hC dX1_takesKind_8 (pc' := 11) (tgt := 17) (by decide) rfl (by omega) (by omega) (fun h8 => ?_) (fun h8 => ?_)
  · refine g_aload_0 hC dX1_takesKind_17 (pc' := 18) rfl ?_
    refine g_iconst hC dX1_takesKind_18 (pc' := 19) kc_iconst_1 rfl ?_
    refine g_iconst hC dX1_takesKind_19 (pc' := 20) kc_iconst_1 rfl ?_
    refine g_callV2I hC (c_goesOn (b := true) (nx := 1)) ml_X1_22 (sh_reader ad) rfl ⟨(Nat.le_of_ble_eq_true rfl), (Nat.le_of_ble_eq_true rfl)⟩ (Nat.le_of_ble_eq_true rfl) dX1_takesKind_20 (pc' := 23) rfl ⟨Nat.zero_le _, Nat.zero_le _⟩ (fun v20 X20 q20 => ?_)
    obtain ⟨rfl, gx⟩ := q20
    refine g_iretI hC hRt (nz_z _) dX1_takesKind_23 ?_
    rw [if_pos rfl] at gx; subst gx
    exact ⟨Or.inl ⟨_, stp0w he (by omega), rfl, ⟨⟨by show 1 ≤ 7; decide, fun _ => by show c = 119 ∨ c = 115 ∨ _; omega, fun h => absurd h.1 (show ¬ 2 ≤ 1 by decide), fun h => absurd h (show ¬ 1 = 5 by decide), fun h => absurd h (show ¬ 1 = 4 by decide)⟩, gu_at, fun _ => (gu_id (by decide)).trans gu_at, fun h => absurd h (show ¬ 2 ≤ 1 by decide), fun h => absurd h (show ¬ 4 ≤ 1 by decide), fun h => absurd h (show ¬ 1 = 7 by decide)⟩⟩, fun i hi => (gu_ne i hi).trans (gu_ne i hi)⟩
  · refine g_iload_1 hC dX1_takesKind_11 (pc' := 12) rfl ?_
    refine g_bipush hC dX1_takesKind_12 (pc' := 14) kc_bipush_115 rfl ?_
    refine g_icmpN_ne hC dX1_takesKind_14 (pc' := 17) (tgt := 24) (by decide) rfl (by omega) (by omega) (fun h14 => ?_) (fun h14 => ?_)
    · refine g_aload_0 hC dX1_takesKind_24 (pc' := 25) rfl ?_
      refine g_iload_1 hC dX1_takesKind_25 (pc' := 26) rfl ?_
      refine g_bipush hC dX1_takesKind_26 (pc' := 28) kc_bipush_116 rfl ?_
      refine g_icmpN_eq hC dX1_takesKind_28 (pc' := 31) (tgt := 37) (by decide) rfl (by omega) (by omega) (fun h28 => ?_) (fun h28 => ?_)
      · refine g_iconst hC dX1_takesKind_37 (pc' := 38) kc_iconst_1 rfl ?_
        refine g_goto hC dX1_takesKind_38 (tgt := 42) (by decide) ?_
        refine g_bipush hC dX1_takesKind_42 (pc' := 44) kc_bipush_7 rfl ?_
        refine g_callV2I hC (c_goesOn (b := true) (nx := 7)) ml_X1_22 (sh_reader ad) rfl ⟨(Nat.le_of_ble_eq_true rfl), (Nat.le_of_ble_eq_true rfl)⟩ (Nat.le_of_ble_eq_true rfl) dX1_takesKind_44 (pc' := 47) rfl ⟨Nat.zero_le _, Nat.zero_le _⟩ (fun v44 X44 q44 => ?_)
        obtain ⟨rfl, gx⟩ := q44
        refine g_iretI hC hRt (nz_z _) dX1_takesKind_47 ?_
        rw [if_pos rfl] at gx; subst gx
        exact ⟨Or.inl ⟨_, stp0t he (by omega), rfl, ⟨⟨by show 7 ≤ 7; decide, fun _ => Or.inr (Or.inr ⟨rfl, by show c = 116 ∨ c = 98; omega⟩), fun h => absurd h.2 (show ¬ 7 ≤ 4 by decide), fun h => absurd h (show ¬ 7 = 5 by decide), fun h => absurd h (show ¬ 7 = 4 by decide)⟩, gu_at, fun _ => (gu_id (by decide)).trans gu_at, fun _ h => absurd h (show ¬ (c = 119 ∨ c = 115) by omega), fun _ h => absurd h (show ¬ c = 119 by omega), fun _ h => absurd h (show ¬ (c = 119 ∨ c = 115) by omega)⟩⟩, fun i hi => (gu_ne i hi).trans (gu_ne i hi)⟩
      · refine g_iload_1 hC dX1_takesKind_31 (pc' := 32) rfl ?_
        refine g_bipush hC dX1_takesKind_32 (pc' := 34) kc_bipush_98 rfl ?_
        refine g_icmpN_ne hC dX1_takesKind_34 (pc' := 37) (tgt := 41) (by decide) rfl (by omega) (by omega) (fun h34 => ?_) (fun h34 => ?_)
        · refine g_iconst hC dX1_takesKind_41 (pc' := 42) kc_iconst_0 rfl ?_
          refine g_bipush hC dX1_takesKind_42 (pc' := 44) kc_bipush_7 rfl ?_
          refine g_callV2I hC (c_goesOn (b := false) (nx := 7)) ml_X1_22 (sh_reader ad) rfl ⟨(Nat.le_of_ble_eq_true rfl), (Nat.le_of_ble_eq_true rfl)⟩ (Nat.le_of_ble_eq_true rfl) dX1_takesKind_44 (pc' := 47) rfl ⟨Nat.zero_le _, Nat.zero_le _⟩ (fun v44 X44 q44 => ?_)
          obtain ⟨rfl, gx⟩ := q44
          refine g_iretI hC hRt (nz_z _) dX1_takesKind_47 ?_
          rw [if_neg (by decide)] at gx; subst gx
          exact ⟨Or.inr ⟨stp0n he ⟨by omega, by omega, by omega, by omega⟩, rfl⟩, fun i hi => gu_ne i hi⟩
        · refine g_iconst hC dX1_takesKind_37 (pc' := 38) kc_iconst_1 rfl ?_
          refine g_goto hC dX1_takesKind_38 (tgt := 42) (by decide) ?_
          refine g_bipush hC dX1_takesKind_42 (pc' := 44) kc_bipush_7 rfl ?_
          refine g_callV2I hC (c_goesOn (b := true) (nx := 7)) ml_X1_22 (sh_reader ad) rfl ⟨(Nat.le_of_ble_eq_true rfl), (Nat.le_of_ble_eq_true rfl)⟩ (Nat.le_of_ble_eq_true rfl) dX1_takesKind_44 (pc' := 47) rfl ⟨Nat.zero_le _, Nat.zero_le _⟩ (fun v44 X44 q44 => ?_)
          obtain ⟨rfl, gx⟩ := q44
          refine g_iretI hC hRt (nz_z _) dX1_takesKind_47 ?_
          rw [if_pos rfl] at gx; subst gx
          exact ⟨Or.inl ⟨_, stp0t he (by omega), rfl, ⟨⟨by show 7 ≤ 7; decide, fun _ => Or.inr (Or.inr ⟨rfl, by show c = 116 ∨ c = 98; omega⟩), fun h => absurd h.2 (show ¬ 7 ≤ 4 by decide), fun h => absurd h (show ¬ 7 = 5 by decide), fun h => absurd h (show ¬ 7 = 4 by decide)⟩, gu_at, fun _ => (gu_id (by decide)).trans gu_at, fun _ h => absurd h (show ¬ (c = 119 ∨ c = 115) by omega), fun _ h => absurd h (show ¬ c = 119 by omega), fun _ h => absurd h (show ¬ (c = 119 ∨ c = 115) by omega)⟩⟩, fun i hi => (gu_ne i hi).trans (gu_ne i hi)⟩
    · refine g_aload_0 hC dX1_takesKind_17 (pc' := 18) rfl ?_
      refine g_iconst hC dX1_takesKind_18 (pc' := 19) kc_iconst_1 rfl ?_
      refine g_iconst hC dX1_takesKind_19 (pc' := 20) kc_iconst_1 rfl ?_
      refine g_callV2I hC (c_goesOn (b := true) (nx := 1)) ml_X1_22 (sh_reader ad) rfl ⟨(Nat.le_of_ble_eq_true rfl), (Nat.le_of_ble_eq_true rfl)⟩ (Nat.le_of_ble_eq_true rfl) dX1_takesKind_20 (pc' := 23) rfl ⟨Nat.zero_le _, Nat.zero_le _⟩ (fun v20 X20 q20 => ?_)
      obtain ⟨rfl, gx⟩ := q20
      refine g_iretI hC hRt (nz_z _) dX1_takesKind_23 ?_
      rw [if_pos rfl] at gx; subst gx
      exact ⟨Or.inl ⟨_, stp0w he (by omega), rfl, ⟨⟨by show 1 ≤ 7; decide, fun _ => by show c = 119 ∨ c = 115 ∨ _; omega, fun h => absurd h.1 (show ¬ 2 ≤ 1 by decide), fun h => absurd h (show ¬ 1 = 5 by decide), fun h => absurd h (show ¬ 1 = 4 by decide)⟩, gu_at, fun _ => (gu_id (by decide)).trans gu_at, fun h => absurd h (show ¬ 2 ≤ 1 by decide), fun h => absurd h (show ¬ 4 ≤ 1 by decide), fun h => absurd h (show ¬ 1 = 7 by decide)⟩⟩, fun i hi => (gu_ne i hi).trans (gu_ne i hi)⟩

set_option maxHeartbeats 4000000 in
set_option maxRecDepth 100000 in
theorem c_tkField {l : Launch} {ad : Nat → Nat} {X : gX} {c k f v p : Nat} (hq : RO X (1, k, f, v, p)) (hc : c ≤ 126) : K_X1_takesField l ad [.ref 162, .int (nI c)] X (TK (1, k, f, v, p) c X) := by
  refine Ct.of [.ref 162, .int (nI c)] 0 (by decide +kernel) rfl (Nat.le_of_ble_eq_true rfl) (fun F hl hC hRt _ => ?_)
  subst hl
  obtain ⟨qk, qe, q0, q1, q2, q3⟩ := hq
  dsimp only at qe q0 q1 q2 q3
  have hk : k = 119 ∨ k = 115 := by have z := qk.2.1 (show 1 ≤ 1 by decide); rcases z with z | z | z; exact Or.inl z; exact Or.inr z; exact absurd z.1 (show ¬ 1 = 7 by decide)
  have hk126 : k ≤ 126 := by omega
  refine g_aload_0 hC dX1_takesField_0 (pc' := 1) rfl ?_
  refine g_iload_1 hC dX1_takesField_1 (pc' := 2) rfl ?_
  refine g_bipush hC dX1_takesField_2 (pc' := 4) kc_bipush_48 rfl ?_
  refine g_isub hC dX1_takesField_4 (pc' := 5) rfl ?_
  refine g_putI hC fl_X1_38 (sh_reader ad) rfl rfl rfl dX1_takesField_5 (pc' := 8) rfl ?_
  refine g_aload_0 hC dX1_takesField_8 (pc' := 9) rfl ?_
  refine g_iload_1 hC dX1_takesField_9 (pc' := 10) rfl ?_
  refine g_callS1R hC (c_isDigit hc) ml_X1_41 ⟨(Nat.le_of_ble_eq_true rfl), (Nat.le_of_ble_eq_true rfl)⟩ (Nat.le_of_ble_eq_true rfl) dX1_takesField_10 (pc' := 13) rfl ⟨Nat.zero_le _, Nat.zero_le _⟩ ?_
  refine g_aload_0 hC dX1_takesField_13 (pc' := 14) rfl ?_
  refine g_getI hC fl_X1_35 (sh_reader ad) rfl ((gu_id (by decide)).trans (q0 (show 1 ≤ 1 by decide))) dX1_takesField_14 (pc' := 17) rfl ?_
  refine g_bipush hC dX1_takesField_17 (pc' := 19) kc_bipush_119 rfl ?_
  refine g_icmpN_ne hC dX1_takesField_19 (pc' := 22) (tgt := 26) (by decide) rfl (by omega) (by omega) (fun h19 => ?_) (fun h19 => ?_)
  · refine g_iconst hC dX1_takesField_26 (pc' := 27) kc_iconst_5 rfl ?_
    refine g_callV2I hC (c_goesOn (b := dgB 0 9 c) (nx := 5)) ml_X1_22 (sh_reader ad) rfl ⟨(Nat.le_of_ble_eq_true rfl), (Nat.le_of_ble_eq_true rfl)⟩ (Nat.le_of_ble_eq_true rfl) dX1_takesField_27 (pc' := 30) rfl ⟨Nat.zero_le _, Nat.zero_le _⟩ (fun v27 X27 q27 => ?_)
    obtain ⟨rfl, gx⟩ := q27
    refine g_iretI hC hRt (nz_z _) dX1_takesField_30 ?_
    cases hg : dgB 0 9 c with
    | false =>
      rw [hg, if_neg (by decide)] at gx
      subst gx
      exact ⟨Or.inr ⟨stp1n (fun z => by rw [dgB_d.mpr z] at hg; cases hg), rfl⟩, fun i hi => gu_ne i hi⟩
    | true =>
      rw [hg, if_pos rfl] at gx
      subst gx
      refine ⟨Or.inl ⟨_, stp1 (dgB_d.mp hg), rfl, ?_⟩, fun i hi => (gu_ne i hi).trans (gu_ne i hi)⟩
      rw [if_neg h19]
      exact ⟨⟨show 5 ≤ 7 by decide, fun _ => by rcases hk with z | z; exact Or.inl z; exact Or.inr (Or.inl z), fun h => absurd h.2 (show ¬ 5 ≤ 4 by decide), fun h => hk.resolve_left h19, fun h => absurd h (show ¬ 5 = 4 by decide)⟩, gu_at, fun _ => (gu_id (by decide)).trans ((gu_id (by decide)).trans (q0 (show 1 ≤ 1 by decide))), fun _ _ => (gu_id (by decide)).trans (gu_at.trans (dgI hg)), fun h h2 => absurd h2 h19, fun h => absurd h (show ¬ 5 = 7 by decide)⟩
  · refine g_iconst hC dX1_takesField_22 (pc' := 23) kc_iconst_2 rfl ?_
    refine g_goto hC dX1_takesField_23 (tgt := 27) (by decide) ?_
    refine g_callV2I hC (c_goesOn (b := dgB 0 9 c) (nx := 2)) ml_X1_22 (sh_reader ad) rfl ⟨(Nat.le_of_ble_eq_true rfl), (Nat.le_of_ble_eq_true rfl)⟩ (Nat.le_of_ble_eq_true rfl) dX1_takesField_27 (pc' := 30) rfl ⟨Nat.zero_le _, Nat.zero_le _⟩ (fun v27 X27 q27 => ?_)
    obtain ⟨rfl, gx⟩ := q27
    refine g_iretI hC hRt (nz_z _) dX1_takesField_30 ?_
    cases hg : dgB 0 9 c with
    | false =>
      rw [hg, if_neg (by decide)] at gx
      subst gx
      exact ⟨Or.inr ⟨stp1n (fun z => by rw [dgB_d.mpr z] at hg; cases hg), rfl⟩, fun i hi => gu_ne i hi⟩
    | true =>
      rw [hg, if_pos rfl] at gx
      subst gx
      refine ⟨Or.inl ⟨_, stp1 (dgB_d.mp hg), rfl, ?_⟩, fun i hi => (gu_ne i hi).trans (gu_ne i hi)⟩
      rw [if_pos h19]
      exact ⟨⟨show 2 ≤ 7 by decide, fun _ => by rcases hk with z | z; exact Or.inl z; exact Or.inr (Or.inl z), fun h => h19, fun h => absurd h (show ¬ 2 = 5 by decide), fun h => absurd h (show ¬ 2 = 4 by decide)⟩, gu_at, fun _ => (gu_id (by decide)).trans ((gu_id (by decide)).trans (q0 (show 1 ≤ 1 by decide))), fun _ _ => (gu_id (by decide)).trans (gu_at.trans (dgI hg)), fun h h2 => absurd h (show ¬ 4 ≤ 2 by decide), fun h => absurd h (show ¬ 2 = 7 by decide)⟩

set_option maxHeartbeats 4000000 in
set_option maxRecDepth 100000 in
theorem c_tkFirst {l : Launch} {ad : Nat → Nat} {X : gX} {c k f v p : Nat} (hq : RO X (3, k, f, v, p)) (hc : c ≤ 126) : K_X1_takesFirstDigit l ad [.ref 162, .int (nI c)] X (TK (3, k, f, v, p) c X) := by
  refine Ct.of [.ref 162, .int (nI c)] 0 (by decide +kernel) rfl (Nat.le_of_ble_eq_true rfl) (fun F hl hC hRt _ => ?_)
  subst hl
  obtain ⟨qk, qe, q0, q1, q2, q3⟩ := hq
  dsimp only at qe q0 q1 q2 q3
  have hk : k = 119 := qk.2.2.1 (show 2 ≤ 3 ∧ 3 ≤ 4 by decide)
  refine g_aload_0 hC dX1_takesFirstDigit_0 (pc' := 1) rfl ?_
  refine g_iload_1 hC dX1_takesFirstDigit_1 (pc' := 2) rfl ?_
  refine g_bipush hC dX1_takesFirstDigit_2 (pc' := 4) kc_bipush_48 rfl ?_
  refine g_isub hC dX1_takesFirstDigit_4 (pc' := 5) rfl ?_
  refine g_putI hC fl_X1_44 (sh_reader ad) rfl rfl rfl dX1_takesFirstDigit_5 (pc' := 8) rfl ?_
  refine g_aload_0 hC dX1_takesFirstDigit_8 (pc' := 9) rfl ?_
  refine g_iload_1 hC dX1_takesFirstDigit_9 (pc' := 10) rfl ?_
  refine g_callS1R hC (c_isDigit hc) ml_X1_41 ⟨(Nat.le_of_ble_eq_true rfl), (Nat.le_of_ble_eq_true rfl)⟩ (Nat.le_of_ble_eq_true rfl) dX1_takesFirstDigit_10 (pc' := 13) rfl ⟨Nat.zero_le _, Nat.zero_le _⟩ ?_
  refine g_iconst hC dX1_takesFirstDigit_13 (pc' := 14) kc_iconst_4 rfl ?_
  refine g_callV2I hC (c_goesOn (b := dgB 0 9 c) (nx := 4)) ml_X1_22 (sh_reader ad) rfl ⟨(Nat.le_of_ble_eq_true rfl), (Nat.le_of_ble_eq_true rfl)⟩ (Nat.le_of_ble_eq_true rfl) dX1_takesFirstDigit_14 (pc' := 17) rfl ⟨Nat.zero_le _, Nat.zero_le _⟩ (fun v14 X14 q14 => ?_)
  obtain ⟨rfl, gx⟩ := q14
  refine g_iretI hC hRt (nz_z _) dX1_takesFirstDigit_17 ?_
  cases hg : dgB 0 9 c with
  | false =>
    rw [hg, if_neg (by decide)] at gx
    subst gx
    exact ⟨Or.inr ⟨stp3n (fun z => by rw [dgB_d.mpr z] at hg; cases hg), rfl⟩, fun i hi => gu_ne i hi⟩
  | true =>
    rw [hg, if_pos rfl] at gx
    subst gx
    refine ⟨Or.inl ⟨_, stp3 (dgB_d.mp hg), rfl, ?_⟩, fun i hi => (gu_ne i hi).trans (gu_ne i hi)⟩
    exact ⟨⟨show 4 ≤ 7 by decide, fun _ => Or.inl hk, fun _ => hk, fun h => absurd h (show ¬ 4 = 5 by decide), fun _ => show c - 48 ≤ 999 by omega⟩, gu_at, fun _ => (gu_id (by decide)).trans ((gu_id (by decide)).trans (q0 (show 1 ≤ 3 by decide))), fun _ h => (gu_id (by decide)).trans ((gu_id (by decide)).trans (q1 (show 2 ≤ 3 by decide) h)), fun _ _ => (gu_id (by decide)).trans (gu_at.trans (dgI hg)), fun h => absurd h (show ¬ 4 = 7 by decide)⟩

set_option maxHeartbeats 4000000 in
set_option maxRecDepth 100000 in
theorem c_tkMore {l : Launch} {ad : Nat → Nat} {X : gX} {c k f v p : Nat} (hq : RO X (4, k, f, v, p)) (hc : c ≤ 126) (h33 : ¬ c = 33) : K_X1_takesOneMoreDigit l ad [.ref 162, .int (nI c)] X (TK (4, k, f, v, p) c X) := by
  refine Ct.of [.ref 162, .int (nI c)] 0 (by decide +kernel) rfl (Nat.le_of_ble_eq_true rfl) (fun F hl hC hRt _ => ?_)
  subst hl
  obtain ⟨qk, qe, q0, q1, q2, q3⟩ := hq
  dsimp only at qe q0 q1 q2 q3
  have hk : k = 119 := qk.2.2.1 (show 2 ≤ 4 ∧ 4 ≤ 4 by decide)
  have hv9 : v ≤ 999 := qk.2.2.2.2 rfl
  have hv0 := q2 (show 4 ≤ 4 by decide) hk
  refine g_iload_1 hC dX1_takesOneMoreDigit_0 (pc' := 1) rfl ?_
  refine g_callS1R hC (c_isDigit hc) ml_X1_41 ⟨(Nat.le_of_ble_eq_true rfl), (Nat.le_of_ble_eq_true rfl)⟩ (Nat.le_of_ble_eq_true rfl) dX1_takesOneMoreDigit_1 (pc' := 4) rfl ⟨Nat.zero_le _, Nat.zero_le _⟩ ?_
  refine g_ifZ_eq hC dX1_takesOneMoreDigit_4 (pc' := 7) (tgt := 14) (by decide) rfl (fun h4 => ?_) (fun h4 => ?_)
  · have hnd : ¬ dig c := fun z => by rw [dgB_d.mpr z] at h4; cases h4
    refine g_iconst hC dX1_takesOneMoreDigit_14 (pc' := 15) kc_iconst_0 rfl ?_
    refine g_iretI hC hRt nz_0 dX1_takesOneMoreDigit_15 ?_
    exact ⟨Or.inr ⟨stp4n h33 (fun z => hnd z.1), rfl⟩, fun _ _ => rfl⟩
  · have hd := dgB_d.mp h4
    have hd1 := hd.1
    have hd2 := hd.2
    refine g_aload_0 hC dX1_takesOneMoreDigit_7 (pc' := 8) rfl ?_
    refine g_getI hC fl_X1_44 (sh_reader ad) rfl (hv0) dX1_takesOneMoreDigit_8 (pc' := 11) rfl ?_
    refine g_ifN_ne hC dX1_takesOneMoreDigit_11 (pc' := 14) (tgt := 16) (by decide) rfl (by omega) (fun h11 => ?_) (fun h11 => ?_)
    · refine g_aload_0 hC dX1_takesOneMoreDigit_16 (pc' := 17) rfl ?_
      refine g_aload_0 hC dX1_takesOneMoreDigit_17 (pc' := 18) rfl ?_
      refine g_getI hC fl_X1_44 (sh_reader ad) rfl (hv0) dX1_takesOneMoreDigit_18 (pc' := 21) rfl ?_
      refine g_bipush hC dX1_takesOneMoreDigit_21 (pc' := 23) kc_bipush_10 rfl ?_
      refine g_imulN hC dX1_takesOneMoreDigit_23 (pc' := 24) rfl ?_
      refine g_iload_1 hC dX1_takesOneMoreDigit_24 (pc' := 25) rfl ?_
      refine g_bipush hC dX1_takesOneMoreDigit_25 (pc' := 27) kc_bipush_48 rfl ?_
      refine g_isubN hC dX1_takesOneMoreDigit_27 (pc' := 28) rfl (by omega) ?_
      refine g_iaddN hC dX1_takesOneMoreDigit_28 (pc' := 29) rfl ?_
      refine g_putI hC fl_X1_44 (sh_reader ad) rfl rfl rfl dX1_takesOneMoreDigit_29 (pc' := 32) rfl ?_
      refine g_aload_0 hC dX1_takesOneMoreDigit_32 (pc' := 33) rfl ?_
      refine g_getI hC fl_X1_44 (sh_reader ad) rfl (gu_at) dX1_takesOneMoreDigit_33 (pc' := 36) rfl ?_
      refine g_sipush hC dX1_takesOneMoreDigit_36 (pc' := 39) kc_sipush_999 rfl ?_
      refine g_icmpN_gt hC dX1_takesOneMoreDigit_39 (pc' := 42) (tgt := 46) (by decide) rfl (by omega) (by omega) (fun h39 => ?_) (fun h39 => ?_)
      · refine g_iconst hC dX1_takesOneMoreDigit_46 (pc' := 47) kc_iconst_0 rfl ?_
        refine g_iretI hC hRt nz_0 dX1_takesOneMoreDigit_47 ?_
        exact ⟨Or.inr ⟨stp4n h33 (fun z => by have := z.2.2; omega), rfl⟩, fun i hi => gu_ne i hi⟩
      · refine g_iconst hC dX1_takesOneMoreDigit_42 (pc' := 43) kc_iconst_1 rfl ?_
        refine g_goto hC dX1_takesOneMoreDigit_43 (tgt := 47) (by decide) ?_
        refine g_iretI hC hRt nz_1 dX1_takesOneMoreDigit_47 ?_
        refine ⟨Or.inl ⟨_, stp4 hd (by omega) (by omega), rfl, ?_⟩, fun i hi => gu_ne i hi⟩
        exact ⟨⟨show 4 ≤ 7 by decide, fun _ => Or.inl hk, fun _ => hk, fun h => absurd h (show ¬ 4 = 5 by decide), fun _ => show v * 10 + (c - 48) ≤ 999 by omega⟩, (gu_id (by decide)).trans qe, fun _ => (gu_id (by decide)).trans (q0 (show 1 ≤ 4 by decide)), fun _ h => (gu_id (by decide)).trans (q1 (show 2 ≤ 4 by decide) h), fun _ _ => gu_at, fun h => absurd h (show ¬ 4 = 7 by decide)⟩
    · refine g_iconst hC dX1_takesOneMoreDigit_14 (pc' := 15) kc_iconst_0 rfl ?_
      refine g_iretI hC hRt nz_0 dX1_takesOneMoreDigit_15 ?_
      exact ⟨Or.inr ⟨stp4n h33 (fun z => by have := z.2.1; omega), rfl⟩, fun _ _ => rfl⟩

set_option maxHeartbeats 4000000 in
set_option maxRecDepth 100000 in
theorem c_tkPress {l : Launch} {ad : Nat → Nat} {X : gX} {c k f v p : Nat} (hq : RO X (6, k, f, v, p)) (hc : c ≤ 126) : K_X1_takesPressure l ad [.ref 162, .int (nI c)] X (TK (6, k, f, v, p) c X) := by
  refine Ct.of [.ref 162, .int (nI c)] 0 (by decide +kernel) rfl (Nat.le_of_ble_eq_true rfl) (fun F hl hC hRt _ => ?_)
  subst hl
  obtain ⟨qk, qe, q0, q1, q2, q3⟩ := hq
  dsimp only at qe q0 q1 q2 q3
  have hk : k = 119 ∨ k = 115 := by have z := qk.2.1 (show 1 ≤ 6 by decide); rcases z with z | z | z; exact Or.inl z; exact Or.inr z; exact absurd z.1 (show ¬ 6 = 7 by decide)
  refine g_aload_0 hC dX1_takesPressure_0 (pc' := 1) rfl ?_
  refine g_iload_1 hC dX1_takesPressure_1 (pc' := 2) rfl ?_
  refine g_bipush hC dX1_takesPressure_2 (pc' := 4) kc_bipush_48 rfl ?_
  refine g_isub hC dX1_takesPressure_4 (pc' := 5) rfl ?_
  refine g_putI hC fl_X1_47 (sh_reader ad) rfl rfl rfl dX1_takesPressure_5 (pc' := 8) rfl ?_
  refine g_aload_0 hC dX1_takesPressure_8 (pc' := 9) rfl ?_
  refine g_aload_0 hC dX1_takesPressure_9 (pc' := 10) rfl ?_
  refine g_getI hC fl_X1_47 (sh_reader ad) rfl (gu_at) dX1_takesPressure_10 (pc' := 13) rfl ?_
  refine g_callN1R hC (c_iPress) ml_X1_50 ⟨(Nat.le_of_ble_eq_true rfl), (Nat.le_of_ble_eq_true rfl)⟩ (Nat.le_of_ble_eq_true rfl) dX1_takesPressure_13 (pc' := 16) rfl ⟨Nat.zero_le _, Nat.zero_le _⟩ ?_
  refine g_bipush hC dX1_takesPressure_16 (pc' := 18) kc_bipush_7 rfl ?_
  refine g_callV2I hC (c_goesOn (b := inB (nI c - nI 48) (nI 1) (nI 9)) (nx := 7)) ml_X1_22 (sh_reader ad) rfl ⟨(Nat.le_of_ble_eq_true rfl), (Nat.le_of_ble_eq_true rfl)⟩ (Nat.le_of_ble_eq_true rfl) dX1_takesPressure_18 (pc' := 21) rfl ⟨Nat.zero_le _, Nat.zero_le _⟩ (fun v18 X18 q18 => ?_)
  obtain ⟨rfl, gx⟩ := q18
  refine g_iretI hC hRt (nz_z _) dX1_takesPressure_21 ?_
  rw [dg_in hc (by decide) (by decide)] at gx ⊢
  cases hg : dgB 1 9 c with
  | false =>
    rw [hg, if_neg (by decide)] at gx
    subst gx
    exact ⟨Or.inr ⟨stp6n (fun z => by rw [dgB_p.mpr z] at hg; cases hg), rfl⟩, fun i hi => gu_ne i hi⟩
  | true =>
    rw [hg, if_pos rfl] at gx
    subst gx
    refine ⟨Or.inl ⟨_, stp6 (dgB_p.mp hg), rfl, ?_⟩, fun i hi => (gu_ne i hi).trans (gu_ne i hi)⟩
    exact ⟨⟨show 7 ≤ 7 by decide, fun _ => by rcases hk with z | z; exact Or.inl z; exact Or.inr (Or.inl z), fun h => absurd h.2 (show ¬ 7 ≤ 4 by decide), fun h => absurd h (show ¬ 7 = 5 by decide), fun h => absurd h (show ¬ 7 = 4 by decide)⟩, gu_at, fun _ => (gu_id (by decide)).trans ((gu_id (by decide)).trans (q0 (show 1 ≤ 6 by decide))), fun _ h => (gu_id (by decide)).trans ((gu_id (by decide)).trans (q1 (show 2 ≤ 6 by decide) h)), fun _ h => (gu_id (by decide)).trans ((gu_id (by decide)).trans (q2 (show 4 ≤ 6 by decide) h)), fun _ _ => (gu_id (by decide)).trans (gu_at.trans (dgI hg))⟩

set_option maxHeartbeats 4000000 in
set_option maxRecDepth 100000 in
theorem c_takes0 {l : Launch} {ad : Nat → Nat} {X : gX} {c k f v p : Nat} (hq : RO X (0, k, f, v, p)) (hc : c ≤ 126) : K_X1_takes l ad [.ref 162, .int (nI c)] X (TK (0, k, f, v, p) c X) := by
  refine Ct.of [.ref 162, .int (nI c)] 0 (by decide +kernel) rfl (Nat.le_of_ble_eq_true rfl) (fun F hl hC hRt _ => ?_)
  subst hl
  refine g_aload_0 hC dX1_takes_0 (pc' := 1) rfl ?_
  refine g_getI hC fl_X1_11 (sh_reader ad) rfl (hq.2.1) dX1_takes_1 (pc' := 4) rfl ?_
  refine g_tabI hC 0 dX1_takes_4 rfl (by decide) (by decide) (by decide) (off := 44) rfl (tgt := 48) (by decide) ?_
  refine g_aload_0 hC dX1_takes_48 (pc' := 49) rfl ?_
  refine g_iload_1 hC dX1_takes_49 (pc' := 50) rfl ?_
  refine g_callV1I hC (c_tkKind hq hc rfl) ml_X1_15 (sh_reader ad) rfl ⟨(Nat.le_of_ble_eq_true rfl), (Nat.le_of_ble_eq_true rfl)⟩ (Nat.le_of_ble_eq_true rfl) dX1_takes_50 (pc' := 53) rfl ⟨Nat.zero_le _, Nat.zero_le _⟩ (fun v50 X50 q50 => ?_)
  obtain ⟨b50, rfl⟩ := q50.b
  refine g_iretI hC hRt (nz_z _) dX1_takes_53 ?_
  exact q50

set_option maxHeartbeats 4000000 in
set_option maxRecDepth 100000 in
theorem c_takes1 {l : Launch} {ad : Nat → Nat} {X : gX} {c k f v p : Nat} (hq : RO X (1, k, f, v, p)) (hc : c ≤ 126) : K_X1_takes l ad [.ref 162, .int (nI c)] X (TK (1, k, f, v, p) c X) := by
  refine Ct.of [.ref 162, .int (nI c)] 0 (by decide +kernel) rfl (Nat.le_of_ble_eq_true rfl) (fun F hl hC hRt _ => ?_)
  subst hl
  refine g_aload_0 hC dX1_takes_0 (pc' := 1) rfl ?_
  refine g_getI hC fl_X1_11 (sh_reader ad) rfl (hq.2.1) dX1_takes_1 (pc' := 4) rfl ?_
  refine g_tabI hC 1 dX1_takes_4 rfl (by decide) (by decide) (by decide) (off := 50) rfl (tgt := 54) (by decide) ?_
  refine g_aload_0 hC dX1_takes_54 (pc' := 55) rfl ?_
  refine g_iload_1 hC dX1_takes_55 (pc' := 56) rfl ?_
  refine g_callV1I hC (c_tkField hq hc) ml_X1_19 (sh_reader ad) rfl ⟨(Nat.le_of_ble_eq_true rfl), (Nat.le_of_ble_eq_true rfl)⟩ (Nat.le_of_ble_eq_true rfl) dX1_takes_56 (pc' := 59) rfl ⟨Nat.zero_le _, Nat.zero_le _⟩ (fun v56 X56 q56 => ?_)
  obtain ⟨b56, rfl⟩ := q56.b
  refine g_iretI hC hRt (nz_z _) dX1_takes_59 ?_
  exact q56

set_option maxHeartbeats 4000000 in
set_option maxRecDepth 100000 in
theorem c_takes2 {l : Launch} {ad : Nat → Nat} {X : gX} {c k f v p : Nat} (hq : RO X (2, k, f, v, p)) (hc : c ≤ 126) : K_X1_takes l ad [.ref 162, .int (nI c)] X (TK (2, k, f, v, p) c X) := by
  refine Ct.of [.ref 162, .int (nI c)] 0 (by decide +kernel) rfl (Nat.le_of_ble_eq_true rfl) (fun F hl hC hRt _ => ?_)
  subst hl
  obtain ⟨qk, qe, q0, q1, q2, q3⟩ := id hq
  have hk : k = 119 := qk.2.2.1 (show 2 ≤ 2 ∧ 2 ≤ 4 by decide)
  refine g_aload_0 hC dX1_takes_0 (pc' := 1) rfl ?_
  refine g_getI hC fl_X1_11 (sh_reader ad) rfl (hq.2.1) dX1_takes_1 (pc' := 4) rfl ?_
  refine g_tabI hC 2 dX1_takes_4 rfl (by decide) (by decide) (by decide) (off := 56) rfl (tgt := 60) (by decide) ?_
  refine g_aload_0 hC dX1_takes_60 (pc' := 61) rfl ?_
  refine g_iload_1 hC dX1_takes_61 (pc' := 62) rfl ?_
  refine g_bipush hC dX1_takes_62 (pc' := 64) kc_bipush_61 rfl ?_
  refine g_icmpN_ne hC dX1_takes_64 (pc' := 67) (tgt := 71) (by decide) rfl (by omega) (by omega) (fun h64 => ?_) (fun h64 => ?_)
  · refine g_iconst hC dX1_takes_71 (pc' := 72) kc_iconst_0 rfl ?_
    refine g_iconst hC dX1_takes_72 (pc' := 73) kc_iconst_3 rfl ?_
    refine g_callV2I hC (c_goesOn (b := false) (nx := 3)) ml_X1_22 (sh_reader ad) rfl ⟨(Nat.le_of_ble_eq_true rfl), (Nat.le_of_ble_eq_true rfl)⟩ (Nat.le_of_ble_eq_true rfl) dX1_takes_73 (pc' := 76) rfl ⟨Nat.zero_le _, Nat.zero_le _⟩ (fun v73 X73 q73 => ?_)
    obtain ⟨rfl, gx⟩ := q73
    refine g_iretI hC hRt (nz_z _) dX1_takes_76 ?_
    rw [if_neg (by decide)] at gx; subst gx
    have hcn := h64
    exact ⟨Or.inr ⟨stp2n hcn, rfl⟩, fun _ _ => rfl⟩
  · refine g_iconst hC dX1_takes_67 (pc' := 68) kc_iconst_1 rfl ?_
    refine g_goto hC dX1_takes_68 (tgt := 72) (by decide) ?_
    refine g_iconst hC dX1_takes_72 (pc' := 73) kc_iconst_3 rfl ?_
    refine g_callV2I hC (c_goesOn (b := true) (nx := 3)) ml_X1_22 (sh_reader ad) rfl ⟨(Nat.le_of_ble_eq_true rfl), (Nat.le_of_ble_eq_true rfl)⟩ (Nat.le_of_ble_eq_true rfl) dX1_takes_73 (pc' := 76) rfl ⟨Nat.zero_le _, Nat.zero_le _⟩ (fun v73 X73 q73 => ?_)
    obtain ⟨rfl, gx⟩ := q73
    refine g_iretI hC hRt (nz_z _) dX1_takes_76 ?_
    rw [if_pos rfl] at gx; subst gx
    have hcx := h64
    refine ⟨Or.inl ⟨_, by subst hcx; exact stp2, rfl, ?_⟩, fun i hi => gu_ne i hi⟩
    exact ⟨⟨show 3 ≤ 7 by decide, fun _ => Or.inl hk, fun h => hk, fun h => absurd h (show ¬ 3 = 5 by decide), fun h => absurd h (show ¬ 3 = 4 by decide)⟩, gu_at, fun _ => (gu_id (by decide)).trans (q0 (show 1 ≤ 2 by decide)), fun _ h => (gu_id (by decide)).trans (q1 (show 2 ≤ 2 by decide) h), fun h h2 => absurd h (show ¬ 4 ≤ 3 by decide), fun h => absurd h (show ¬ 3 = 7 by decide)⟩

set_option maxHeartbeats 4000000 in
set_option maxRecDepth 100000 in
theorem c_takes3 {l : Launch} {ad : Nat → Nat} {X : gX} {c k f v p : Nat} (hq : RO X (3, k, f, v, p)) (hc : c ≤ 126) : K_X1_takes l ad [.ref 162, .int (nI c)] X (TK (3, k, f, v, p) c X) := by
  refine Ct.of [.ref 162, .int (nI c)] 0 (by decide +kernel) rfl (Nat.le_of_ble_eq_true rfl) (fun F hl hC hRt _ => ?_)
  subst hl
  refine g_aload_0 hC dX1_takes_0 (pc' := 1) rfl ?_
  refine g_getI hC fl_X1_11 (sh_reader ad) rfl (hq.2.1) dX1_takes_1 (pc' := 4) rfl ?_
  refine g_tabI hC 3 dX1_takes_4 rfl (by decide) (by decide) (by decide) (off := 73) rfl (tgt := 77) (by decide) ?_
  refine g_aload_0 hC dX1_takes_77 (pc' := 78) rfl ?_
  refine g_iload_1 hC dX1_takes_78 (pc' := 79) rfl ?_
  refine g_callV1I hC (c_tkFirst hq hc) ml_X1_26 (sh_reader ad) rfl ⟨(Nat.le_of_ble_eq_true rfl), (Nat.le_of_ble_eq_true rfl)⟩ (Nat.le_of_ble_eq_true rfl) dX1_takes_79 (pc' := 82) rfl ⟨Nat.zero_le _, Nat.zero_le _⟩ (fun v79 X79 q79 => ?_)
  obtain ⟨b79, rfl⟩ := q79.b
  refine g_iretI hC hRt (nz_z _) dX1_takes_82 ?_
  exact q79

set_option maxHeartbeats 4000000 in
set_option maxRecDepth 100000 in
theorem c_takes4 {l : Launch} {ad : Nat → Nat} {X : gX} {c k f v p : Nat} (hq : RO X (4, k, f, v, p)) (hc : c ≤ 126) : K_X1_takes l ad [.ref 162, .int (nI c)] X (TK (4, k, f, v, p) c X) := by
  refine Ct.of [.ref 162, .int (nI c)] 0 (by decide +kernel) rfl (Nat.le_of_ble_eq_true rfl) (fun F hl hC hRt _ => ?_)
  subst hl
  obtain ⟨qk, qe, q0, q1, q2, q3⟩ := id hq
  have hk : k = 119 := qk.2.2.1 (show 2 ≤ 4 ∧ 4 ≤ 4 by decide)
  refine g_aload_0 hC dX1_takes_0 (pc' := 1) rfl ?_
  refine g_getI hC fl_X1_11 (sh_reader ad) rfl (hq.2.1) dX1_takes_1 (pc' := 4) rfl ?_
  refine g_tabI hC 4 dX1_takes_4 rfl (by decide) (by decide) (by decide) (off := 79) rfl (tgt := 83) (by decide) ?_
  refine g_iload_1 hC dX1_takes_83 (pc' := 84) rfl ?_
  refine g_bipush hC dX1_takes_84 (pc' := 86) kc_bipush_33 rfl ?_
  refine g_icmpN_ne hC dX1_takes_86 (pc' := 89) (tgt := 99) (by decide) rfl (by omega) (by omega) (fun h86 => ?_) (fun h86 => ?_)
  · refine g_aload_0 hC dX1_takes_99 (pc' := 100) rfl ?_
    refine g_iload_1 hC dX1_takes_100 (pc' := 101) rfl ?_
    refine g_callV1I hC (c_tkMore hq hc h86) ml_X1_29 (sh_reader ad) rfl ⟨(Nat.le_of_ble_eq_true rfl), (Nat.le_of_ble_eq_true rfl)⟩ (Nat.le_of_ble_eq_true rfl) dX1_takes_101 (pc' := 104) rfl ⟨Nat.zero_le _, Nat.zero_le _⟩ (fun v101 X101 q101 => ?_)
    obtain ⟨b101, rfl⟩ := q101.b
    refine g_iretI hC hRt (nz_z _) dX1_takes_104 ?_
    exact q101
  · refine g_aload_0 hC dX1_takes_89 (pc' := 90) rfl ?_
    refine g_iconst hC dX1_takes_90 (pc' := 91) kc_iconst_1 rfl ?_
    refine g_bipush hC dX1_takes_91 (pc' := 93) kc_bipush_6 rfl ?_
    refine g_callV2I hC (c_goesOn (b := true) (nx := 6)) ml_X1_22 (sh_reader ad) rfl ⟨(Nat.le_of_ble_eq_true rfl), (Nat.le_of_ble_eq_true rfl)⟩ (Nat.le_of_ble_eq_true rfl) dX1_takes_93 (pc' := 96) rfl ⟨Nat.zero_le _, Nat.zero_le _⟩ (fun v93 X93 q93 => ?_)
    obtain ⟨rfl, gx⟩ := q93
    refine g_goto hC dX1_takes_96 (tgt := 104) (by decide) ?_
    refine g_iretI hC hRt (nz_z _) dX1_takes_104 ?_
    rw [if_pos rfl] at gx; subst gx
    have hcx := h86
    refine ⟨Or.inl ⟨_, by subst hcx; exact stp4b, rfl, ?_⟩, fun i hi => gu_ne i hi⟩
    exact ⟨⟨show 6 ≤ 7 by decide, fun _ => Or.inl hk, fun h => absurd h.2 (show ¬ 6 ≤ 4 by decide), fun h => absurd h (show ¬ 6 = 5 by decide), fun h => absurd h (show ¬ 6 = 4 by decide)⟩, gu_at, fun _ => (gu_id (by decide)).trans (q0 (show 1 ≤ 4 by decide)), fun _ h => (gu_id (by decide)).trans (q1 (show 2 ≤ 4 by decide) h), fun h h2 => (gu_id (by decide)).trans (q2 (show 4 ≤ 4 by decide) h2), fun h => absurd h (show ¬ 6 = 7 by decide)⟩

set_option maxHeartbeats 4000000 in
set_option maxRecDepth 100000 in
theorem c_takes5 {l : Launch} {ad : Nat → Nat} {X : gX} {c k f v p : Nat} (hq : RO X (5, k, f, v, p)) (hc : c ≤ 126) : K_X1_takes l ad [.ref 162, .int (nI c)] X (TK (5, k, f, v, p) c X) := by
  refine Ct.of [.ref 162, .int (nI c)] 0 (by decide +kernel) rfl (Nat.le_of_ble_eq_true rfl) (fun F hl hC hRt _ => ?_)
  subst hl
  obtain ⟨qk, qe, q0, q1, q2, q3⟩ := id hq
  have hk : k = 115 := qk.2.2.2.1 rfl
  refine g_aload_0 hC dX1_takes_0 (pc' := 1) rfl ?_
  refine g_getI hC fl_X1_11 (sh_reader ad) rfl (hq.2.1) dX1_takes_1 (pc' := 4) rfl ?_
  refine g_tabI hC 5 dX1_takes_4 rfl (by decide) (by decide) (by decide) (off := 101) rfl (tgt := 105) (by decide) ?_
  refine g_aload_0 hC dX1_takes_105 (pc' := 106) rfl ?_
  refine g_iload_1 hC dX1_takes_106 (pc' := 107) rfl ?_
  refine g_bipush hC dX1_takes_107 (pc' := 109) kc_bipush_33 rfl ?_
  refine g_icmpN_ne hC dX1_takes_109 (pc' := 112) (tgt := 116) (by decide) rfl (by omega) (by omega) (fun h109 => ?_) (fun h109 => ?_)
  · refine g_iconst hC dX1_takes_116 (pc' := 117) kc_iconst_0 rfl ?_
    refine g_bipush hC dX1_takes_117 (pc' := 119) kc_bipush_6 rfl ?_
    refine g_callV2I hC (c_goesOn (b := false) (nx := 6)) ml_X1_22 (sh_reader ad) rfl ⟨(Nat.le_of_ble_eq_true rfl), (Nat.le_of_ble_eq_true rfl)⟩ (Nat.le_of_ble_eq_true rfl) dX1_takes_119 (pc' := 122) rfl ⟨Nat.zero_le _, Nat.zero_le _⟩ (fun v119 X119 q119 => ?_)
    obtain ⟨rfl, gx⟩ := q119
    refine g_iretI hC hRt (nz_z _) dX1_takes_122 ?_
    rw [if_neg (by decide)] at gx; subst gx
    have hcn := h109
    exact ⟨Or.inr ⟨stp5n hcn, rfl⟩, fun _ _ => rfl⟩
  · refine g_iconst hC dX1_takes_112 (pc' := 113) kc_iconst_1 rfl ?_
    refine g_goto hC dX1_takes_113 (tgt := 117) (by decide) ?_
    refine g_bipush hC dX1_takes_117 (pc' := 119) kc_bipush_6 rfl ?_
    refine g_callV2I hC (c_goesOn (b := true) (nx := 6)) ml_X1_22 (sh_reader ad) rfl ⟨(Nat.le_of_ble_eq_true rfl), (Nat.le_of_ble_eq_true rfl)⟩ (Nat.le_of_ble_eq_true rfl) dX1_takes_119 (pc' := 122) rfl ⟨Nat.zero_le _, Nat.zero_le _⟩ (fun v119 X119 q119 => ?_)
    obtain ⟨rfl, gx⟩ := q119
    refine g_iretI hC hRt (nz_z _) dX1_takes_122 ?_
    rw [if_pos rfl] at gx; subst gx
    have hcx := h109
    refine ⟨Or.inl ⟨_, by subst hcx; exact stp5, rfl, ?_⟩, fun i hi => gu_ne i hi⟩
    exact ⟨⟨show 6 ≤ 7 by decide, fun _ => Or.inr (Or.inl hk), fun h => absurd h.2 (show ¬ 6 ≤ 4 by decide), fun h => absurd h (show ¬ 6 = 5 by decide), fun h => absurd h (show ¬ 6 = 4 by decide)⟩, gu_at, fun _ => (gu_id (by decide)).trans (q0 (show 1 ≤ 5 by decide)), fun _ h => (gu_id (by decide)).trans (q1 (show 2 ≤ 5 by decide) h), fun h h2 => absurd (h2.symm.trans hk) (by decide), fun h => absurd h (show ¬ 6 = 7 by decide)⟩

set_option maxHeartbeats 4000000 in
set_option maxRecDepth 100000 in
theorem c_takes6 {l : Launch} {ad : Nat → Nat} {X : gX} {c k f v p : Nat} (hq : RO X (6, k, f, v, p)) (hc : c ≤ 126) : K_X1_takes l ad [.ref 162, .int (nI c)] X (TK (6, k, f, v, p) c X) := by
  refine Ct.of [.ref 162, .int (nI c)] 0 (by decide +kernel) rfl (Nat.le_of_ble_eq_true rfl) (fun F hl hC hRt _ => ?_)
  subst hl
  refine g_aload_0 hC dX1_takes_0 (pc' := 1) rfl ?_
  refine g_getI hC fl_X1_11 (sh_reader ad) rfl (hq.2.1) dX1_takes_1 (pc' := 4) rfl ?_
  refine g_tabI hC 6 dX1_takes_4 rfl (by decide) (by decide) (by decide) (off := 119) rfl (tgt := 123) (by decide) ?_
  refine g_aload_0 hC dX1_takes_123 (pc' := 124) rfl ?_
  refine g_iload_1 hC dX1_takes_124 (pc' := 125) rfl ?_
  refine g_callV1I hC (c_tkPress hq hc) ml_X1_32 (sh_reader ad) rfl ⟨(Nat.le_of_ble_eq_true rfl), (Nat.le_of_ble_eq_true rfl)⟩ (Nat.le_of_ble_eq_true rfl) dX1_takes_125 (pc' := 128) rfl ⟨Nat.zero_le _, Nat.zero_le _⟩ (fun v125 X125 q125 => ?_)
  obtain ⟨b125, rfl⟩ := q125.b
  refine g_iretI hC hRt (nz_z _) dX1_takes_128 ?_
  exact q125

set_option maxHeartbeats 4000000 in
set_option maxRecDepth 100000 in
theorem c_takes7 {l : Launch} {ad : Nat → Nat} {X : gX} {c k f v p : Nat} (hq : RO X (7, k, f, v, p)) (hc : c ≤ 126) : K_X1_takes l ad [.ref 162, .int (nI c)] X (TK (7, k, f, v, p) c X) := by
  refine Ct.of [.ref 162, .int (nI c)] 0 (by decide +kernel) rfl (Nat.le_of_ble_eq_true rfl) (fun F hl hC hRt _ => ?_)
  subst hl
  obtain ⟨qk, qe, q0, q1, q2, q3⟩ := id hq
  skip
  refine g_aload_0 hC dX1_takes_0 (pc' := 1) rfl ?_
  refine g_getI hC fl_X1_11 (sh_reader ad) rfl (hq.2.1) dX1_takes_1 (pc' := 4) rfl ?_
  refine g_tabO hC dX1_takes_4 (fun j hj => tab_ne (m := 6) (k := 7) hj (by decide) (by decide)) (tgt := 129) (by decide) ?_
  refine g_aload_0 hC dX1_takes_129 (pc' := 130) rfl ?_
  refine g_iload_1 hC dX1_takes_130 (pc' := 131) rfl ?_
  refine g_bipush hC dX1_takes_131 (pc' := 133) kc_bipush_59 rfl ?_
  refine g_icmpN_ne hC dX1_takes_133 (pc' := 136) (tgt := 140) (by decide) rfl (by omega) (by omega) (fun h133 => ?_) (fun h133 => ?_)
  · refine g_iconst hC dX1_takes_140 (pc' := 141) kc_iconst_0 rfl ?_
    refine g_iconst hC dX1_takes_141 (pc' := 142) kc_iconst_0 rfl ?_
    refine g_callV2I hC (c_goesOn (b := false) (nx := 0)) ml_X1_22 (sh_reader ad) rfl ⟨(Nat.le_of_ble_eq_true rfl), (Nat.le_of_ble_eq_true rfl)⟩ (Nat.le_of_ble_eq_true rfl) dX1_takes_142 (pc' := 145) rfl ⟨Nat.zero_le _, Nat.zero_le _⟩ (fun v142 X142 q142 => ?_)
    obtain ⟨rfl, gx⟩ := q142
    refine g_iretI hC hRt (nz_z _) dX1_takes_145 ?_
    rw [if_neg (by decide)] at gx; subst gx
    have hcn := h133
    exact ⟨Or.inr ⟨stp7n rfl hcn, rfl⟩, fun _ _ => rfl⟩
  · refine g_iconst hC dX1_takes_136 (pc' := 137) kc_iconst_1 rfl ?_
    refine g_goto hC dX1_takes_137 (tgt := 141) (by decide) ?_
    refine g_iconst hC dX1_takes_141 (pc' := 142) kc_iconst_0 rfl ?_
    refine g_callV2I hC (c_goesOn (b := true) (nx := 0)) ml_X1_22 (sh_reader ad) rfl ⟨(Nat.le_of_ble_eq_true rfl), (Nat.le_of_ble_eq_true rfl)⟩ (Nat.le_of_ble_eq_true rfl) dX1_takes_142 (pc' := 145) rfl ⟨Nat.zero_le _, Nat.zero_le _⟩ (fun v142 X142 q142 => ?_)
    obtain ⟨rfl, gx⟩ := q142
    refine g_iretI hC hRt (nz_z _) dX1_takes_145 ?_
    rw [if_pos rfl] at gx; subst gx
    have hcx := h133
    exact ⟨Or.inl ⟨_, by subst hcx; exact stp7 rfl, rfl, ⟨⟨show 0 ≤ 7 by decide, fun h => absurd h (show ¬ 1 ≤ 0 by decide), fun h => absurd h.1 (show ¬ 2 ≤ 0 by decide), fun h => absurd h (show ¬ 0 = 5 by decide), fun h => absurd h (show ¬ 0 = 4 by decide)⟩, gu_at, fun h => absurd h (show ¬ 1 ≤ 0 by decide), fun h => absurd h (show ¬ 2 ≤ 0 by decide), fun h => absurd h (show ¬ 4 ≤ 0 by decide), fun h => absurd h (show ¬ 0 = 7 by decide)⟩⟩, fun i hi => gu_ne i hi⟩

theorem c_takes {l : Launch} {ad : Nat → Nat} {X : gX} {q : PSt} {c : Nat} (hq : RO X q) (hc : c ≤ 126) : K_X1_takes l ad [.ref 162, .int (nI c)] X (TK q c X) := by
  obtain ⟨e, k, f, v, p⟩ := q
  have h7 : e ≤ 7 := hq.1.1
  have : e = 0 ∨ e = 1 ∨ e = 2 ∨ e = 3 ∨ e = 4 ∨ e = 5 ∨ e = 6 ∨ e = 7 := by omega
  rcases this with rfl | rfl | rfl | rfl | rfl | rfl | rfl | rfl
  · exact c_takes0 hq hc
  · exact c_takes1 hq hc
  · exact c_takes2 hq hc
  · exact c_takes3 hq hc
  · exact c_takes4 hq hc
  · exact c_takes5 hq hc
  · exact c_takes6 hq hc
  · exact c_takes7 hq hc

def PC (X : gX) (pad : Nat → Nat) (len : Nat) : Prop := X 160 0 = nI len ∧ len ≤ 80 ∧ ∀ i, i < len → X 161 i = nI (pad i) ∧ 33 ≤ pad i ∧ pad i ≤ 126
theorem PC.of {X Y : gX} {pad : Nat → Nat} {len : Nat} (h : PC X pad len) (e0 : Y 160 = X 160) (e1 : Y 161 = X 161) : PC Y pad len := by unfold PC at *; rw [e0, e1]; exact h
theorem i2c_N {n : Nat} (h : n < 65536) : ((nI n).toUInt32 % 65536).toInt32 = nI n := by
  apply Int32.toBitVec_inj.mp
  apply BitVec.eq_of_toNat_eq
  show ((nI n).toUInt32 % 65536).toNat = (nI n).toBitVec.toNat
  have e : (nI n).toUInt32.toNat = n := by
    show (nI n).toBitVec.toNat = n
    show (BitVec.ofNat 32 n).toNat = n
    rw [BitVec.toNat_ofNat]
    omega
  rw [UInt32.toNat_mod, e]
  show n % 65536 = (BitVec.ofNat 32 n).toNat
  rw [BitVec.toNat_ofNat]
  omega
theorem nar_c {n : Nat} (h : n < 65536) : vp_nar .char (nI n) = nI n := by
  show ((nI n).toUInt32 % 65536).toInt32 = nI n
  exact i2c_N h
theorem ap_step {X X1 : gX} {len m C n : Nat} (h : (∀ i, i ≠ 160 → i ≠ 161 → X1 i = X i) ∧ X1 160 0 = nI (len + m) ∧ (∀ j, j < len → X1 161 j = X 161 j) ∧ ∀ j, len ≤ j → j < len + m → X1 161 j = nI (byt C (len + n - 1 - j))) (hm : m < n) :
    (∀ i, i ≠ 160 → i ≠ 161 → gu (gu X1 161 (len + m) (nI (C / 2 ^ (8 * (n - m - 1)) % 256))) 160 0 (nI (len + m + 1)) i = X i) ∧ gu (gu X1 161 (len + m) (nI (C / 2 ^ (8 * (n - m - 1)) % 256))) 160 0 (nI (len + m + 1)) 160 0 = nI (len + (m + 1)) ∧ (∀ j, j < len → gu (gu X1 161 (len + m) (nI (C / 2 ^ (8 * (n - m - 1)) % 256))) 160 0 (nI (len + m + 1)) 161 j = X 161 j) ∧ ∀ j, len ≤ j → j < len + (m + 1) → gu (gu X1 161 (len + m) (nI (C / 2 ^ (8 * (n - m - 1)) % 256))) 160 0 (nI (len + m + 1)) 161 j = nI (byt C (len + n - 1 - j)) := by
  obtain ⟨h1, h2, h3, h4⟩ := h
  refine ⟨fun i a b => by rw [gu_ne i a, gu_ne i b]; exact h1 i a b, gu_at, fun j hj => ?_, fun j hj1 hj2 => ?_⟩
  · rw [gu_ne 161 (by decide), gu_id (by omega)]; exact h3 j hj
  · rw [gu_ne 161 (by decide)]
    by_cases hz : j = len + m
    · subst hz
      rw [gu_at, show len + n - 1 - (len + m) = n - m - 1 by omega]
      rfl
    · rw [gu_id hz]; exact h4 j hj1 (by omega)

set_option maxHeartbeats 4000000 in
set_option maxRecDepth 100000 in
theorem c_firstFault {l : Launch} {ad : Nat → Nat} {X : gX} {pad : Nat → Nat} {len : Nat} (hd : PC X pad len) : K_X2_firstFault l ad [.ref 160, .ref 162] X (fun rr X' => FT pad len rr ∧ ∀ i, i ≠ 162 → X' i = X i) := by
  refine Ct.of [.ref 160, .ref 162, .null] 1 (by decide +kernel) rfl (Nat.le_of_ble_eq_true rfl) (fun F hl hC hRt _ => ?_)
  subst hl
  have hl80 := hd.2.1
  refine g_aload_1 hC dX2_firstFault_0 (pc' := 1) rfl ?_
  refine g_callV0V hC (c_begin) ml_X2_25 (sh_reader ad) rfl ⟨(Nat.le_of_ble_eq_true rfl), (Nat.le_of_ble_eq_true rfl)⟩ (Nat.le_of_ble_eq_true rfl) dX2_firstFault_1 (pc' := 4) rfl ⟨Nat.zero_le _, Nat.zero_le _⟩ (fun X1 q1 => ?_)
  have h0 := q1
  refine g_iconst hC dX2_firstFault_4 (pc' := 5) kc_iconst_0 rfl ?_
  refine g_istore_2 hC dX2_firstFault_5 (pc' := 6) rfl (Nat.le_of_ble_eq_true rfl) rfl ?_
  have L6 : ∀ i, i ≤ len → ∀ X1 : gX, ((∀ i, i ≠ 162 → X1 i = X i) ∧ ∃ q, RO X1 q ∧ rn pad i = some q) → G F (S0 ad) (0, 0) X1 6 [.ref 160, .ref 162, .int (nI i)] [] := by
    refine up_ind _ (fun i hk6 ih6 => ?_)
    intro X1 hm6
    obtain ⟨q, hq, hrn⟩ := hm6.2
    refine g_iload_2 hC dX2_firstFault_6 (pc' := 7) rfl ?_
    refine g_aload_0 hC dX2_firstFault_7 (pc' := 8) rfl ?_
    refine g_getI hC fl_X2_9 (sh_cpad ad) rfl ((congrFun (hm6.1 160 (by decide)) 0).trans hd.1) dX2_firstFault_8 (pc' := 11) rfl ?_
    refine g_icmpN_ge hC dX2_firstFault_11 (pc' := 14) (tgt := 35) (by decide) rfl (by omega) (by omega) (fun h11 => ?_) (fun h11 => ?_)
    · refine g_aload_1 hC dX2_firstFault_35 (pc' := 36) rfl ?_
      refine g_callV0R hC (c_isAfter hq) ml_X2_34 (sh_reader ad) rfl ⟨(Nat.le_of_ble_eq_true rfl), (Nat.le_of_ble_eq_true rfl)⟩ (Nat.le_of_ble_eq_true rfl) dX2_firstFault_36 (pc' := 39) rfl ⟨Nat.zero_le _, Nat.zero_le _⟩ ?_
      refine g_ifZ_eq hC dX2_firstFault_39 (pc' := 42) (tgt := 47) (by decide) rfl (fun h39 => ?_) (fun h39 => ?_)
      · refine g_aload_0 hC dX2_firstFault_47 (pc' := 48) rfl ?_
        refine g_getI hC fl_X2_9 (sh_cpad ad) rfl ((congrFun (hm6.1 160 (by decide)) 0).trans hd.1) dX2_firstFault_48 (pc' := 51) rfl ?_
        refine g_iretI hC hRt rfl dX2_firstFault_51 ?_
        rw [show i = len by omega] at hrn
        exact ⟨Or.inl ⟨len, rfl, Nat.le_refl _, Or.inl ⟨Nat.le_refl _, q, hrn, of_decide_eq_false h39, fun h => absurd h (Nat.lt_irrefl _)⟩⟩, hm6.1⟩
      · refine g_bipush hC dX2_firstFault_42 (pc' := 44) kc_bipush_m6 rfl ?_
        refine g_goto hC dX2_firstFault_44 (tgt := 51) (by decide) ?_
        refine g_iretI hC hRt rfl dX2_firstFault_51 ?_
        rw [show i = len by omega] at hrn
        exact ⟨Or.inr ⟨rfl, q, hrn, of_decide_eq_true h39⟩, hm6.1⟩
    · refine g_aload_1 hC dX2_firstFault_14 (pc' := 15) rfl ?_
      refine g_aload_0 hC dX2_firstFault_15 (pc' := 16) rfl ?_
      refine g_getR hC fl_X2_15 (sh_cpad ad) rfl dX2_firstFault_16 (pc' := 19) rfl ?_
      refine g_iload_2 hC dX2_firstFault_19 (pc' := 20) rfl ?_
      refine g_cald hC (sh_codes ad) (Nat.le_of_ble_eq_true rfl) (by omega) ((congrFun (hm6.1 161 (by decide)) i).trans (hd.2.2 i (by omega)).1) dX2_firstFault_20 (pc' := 21) rfl ?_
      refine g_callV1I hC (c_takes hq (hd.2.2 i (by omega)).2.2) ml_X2_30 (sh_reader ad) rfl ⟨(Nat.le_of_ble_eq_true rfl), (Nat.le_of_ble_eq_true rfl)⟩ (Nat.le_of_ble_eq_true rfl) dX2_firstFault_21 (pc' := 24) rfl ⟨Nat.zero_le _, Nat.zero_le _⟩ (fun v21 X21 q21 => ?_)
      obtain ⟨b21, rfl⟩ := q21.b
      obtain ⟨t21, f21⟩ := q21
      refine g_ifZ_ne hC dX2_firstFault_24 (pc' := 27) (tgt := 29) (by decide) rfl (fun h24 => ?_) (fun h24 => ?_)
      · subst h24
        obtain ⟨q2, hs2, -, hq2⟩ : ∃ q2, stp q (pad i) = some q2 ∧ zI true = zI true ∧ RO X21 q2 := by
          rcases t21 with t | t
          · exact t
          · exact absurd t.2 (by decide)
        refine g_iinc_2 hC dX2_firstFault_29 (pc' := 32) rfl (Nat.le_of_ble_eq_true rfl) rfl (nI_inc _ _ kc_iinc_1) ?_
        refine g_goto hC dX2_firstFault_32 (tgt := 6) (by decide) ?_
        exact g_weak (ih6 (by omega) _ (by exact ⟨fun j hj => (f21 j hj).trans (hm6.1 j hj), q2, hq2, (rn_s hrn).trans hs2⟩)) (gle_s (gle_s (gle_i (by first | rfl | omega) gle_nil)))
      · subst h24
        have hs2 : stp q (pad i) = none := by
          rcases t21 with ⟨q2, -, t, -⟩ | t
          · exact absurd t (by decide)
          · exact t.1
        refine g_iload_2 hC dX2_firstFault_27 (pc' := 28) rfl ?_
        refine g_iretI hC hRt rfl dX2_firstFault_28 ?_
        refine ⟨Or.inl ⟨i, rfl, by omega, ?_⟩, fun j hj => (f21 j hj).trans (hm6.1 j hj)⟩
        by_cases h7 : q.1 = 7
        · exact Or.inr ⟨by omega, q, hrn, hs2⟩
        · exact Or.inl ⟨by omega, q, hrn, h7, fun _ => hs2⟩
  exact g_weak (L6 0 (by exact Nat.zero_le _) _ (by subst h0; exact ⟨fun i hi => gu_ne i hi, _, RO_0, rfl⟩)) (gle_s (gle_s (gle_s gle_nil)))

set_option maxHeartbeats 4000000 in
set_option maxRecDepth 100000 in
theorem c_sizeOf {l : Launch} {ad : Nat → Nat} {X : gX} {C : Nat} (hCb : C < 18446744073709551616) : K_X2_sizeOf l ad [.long (lN (C))] X (pR X (nI (szN C))) := by
  refine Ct.of [.long (lN (C)), .null, .null, .null, .null, .null] 4 (by decide +kernel) rfl (Nat.le_of_ble_eq_true rfl) (fun F hl hC hRt _ => ?_)
  subst hl
  refine g_iconst hC dX2_sizeOf_0 (pc' := 1) kc_iconst_0 rfl ?_
  refine g_istore_2 hC dX2_sizeOf_1 (pc' := 2) rfl (Nat.le_of_ble_eq_true rfl) rfl ?_
  have L2 : ∀ k, k ≤ 8 → szN C = scn C (8 - k) k → G F (S0 ad) (0, 0) X 2 [.long (lN (C)), .null, .int (nI k), .null, .null, .null] [] := by
    refine up_ind _ (fun k hk2 ih2 => ?_)
    intro hq
    refine g_iload_2 hC dX2_sizeOf_2 (pc' := 3) rfl ?_
    refine g_bipush hC dX2_sizeOf_3 (pc' := 5) kc_bipush_8 rfl ?_
    refine g_icmpN_ge hC dX2_sizeOf_5 (pc' := 8) (tgt := 60) (by decide) rfl (by omega) (by omega) (fun h5 => ?_) (fun h5 => ?_)
    · refine g_bipush hC dX2_sizeOf_60 (pc' := 62) kc_bipush_8 rfl ?_
      refine g_iretR hC hRt rfl dX2_sizeOf_62 ?_
      rw [hq, show k = 8 by omega]; rfl
    · have hdk0 : C / 2 ^ (8 * k) < 18446744073709551616 := Nat.lt_of_le_of_lt (Nat.div_le_self _ _) hCb
      refine g_lload_0 hC dX2_sizeOf_8 (pc' := 9) rfl ?_
      refine g_bipush hC dX2_sizeOf_9 (pc' := 11) kc_bipush_8 rfl ?_
      refine g_iload_2 hC dX2_sizeOf_11 (pc' := 12) rfl ?_
      refine g_imulN hC dX2_sizeOf_12 (pc' := 13) rfl ?_
      refine g_lushrN hC dX2_sizeOf_13 (pc' := 14) rfl (by omega) (by omega) ?_
      refine g_lstore_3 hC dX2_sizeOf_14 (pc' := 15) rfl (Nat.le_of_ble_eq_true rfl) rfl ?_
      refine g_lload_3 hC dX2_sizeOf_15 (pc' := 16) rfl ?_
      refine g_ldc2 hC kl_X2_19 dX2_sizeOf_16 (pc' := 19) rfl ?_
      refine g_land255 hC dX2_sizeOf_19 (pc' := 20) rfl (by omega) ?_
      refine g_l2i hC dX2_sizeOf_20 (pc' := 21) (lN_i _) rfl ?_
      refine g_istore_5 hC dX2_sizeOf_21 (pc' := 23) rfl (Nat.le_of_ble_eq_true rfl) rfl ?_
      refine g_iload_5 hC dX2_sizeOf_23 (pc' := 25) rfl ?_
      refine g_ifN_ne hC dX2_sizeOf_25 (pc' := 28) (tgt := 40) (by decide) rfl (by omega) (fun h25 => ?_) (fun h25 => ?_)
      · have hz := h25
        refine g_iload_5 hC dX2_sizeOf_40 (pc' := 42) rfl ?_
        refine g_bipush hC dX2_sizeOf_42 (pc' := 44) kc_bipush_33 rfl ?_
        refine g_bipush hC dX2_sizeOf_44 (pc' := 46) kc_bipush_126 rfl ?_
        refine g_callN3R hC (c_iW) ml_X2_21 ⟨(Nat.le_of_ble_eq_true rfl), (Nat.le_of_ble_eq_true rfl)⟩ (Nat.le_of_ble_eq_true rfl) dX2_sizeOf_46 (pc' := 49) rfl ⟨Nat.zero_le _, Nat.zero_le _⟩ ?_
        refine g_ifZ_ne hC dX2_sizeOf_49 (pc' := 52) (tgt := 54) (by decide) rfl (fun h49 => ?_) (fun h49 => ?_)
        · rw [inB_nI (by omega) (by decide) (by decide)] at h49
          simp only [Bool.and_eq_true, decide_eq_true_eq] at h49
          refine g_iinc_2 hC dX2_sizeOf_54 (pc' := 57) rfl (Nat.le_of_ble_eq_true rfl) rfl (nI_inc _ _ kc_iinc_1) ?_
          refine g_goto hC dX2_sizeOf_57 (tgt := 2) (by decide) ?_
          exact g_weak (ih2 (by omega) (hq.trans (scn_go (by omega) hz h49))) (gle_s (gle_u (gle_i (by first | rfl | omega) (gle_u (gle_u (gle_u gle_nil))))))
        · rw [inB_nI (by omega) (by decide) (by decide)] at h49
          have hs0 : szN C = 0 := hq.trans (scn_bad (by omega) hz (fun z => by simp [z.1, z.2] at h49))
          refine g_iconst hC dX2_sizeOf_52 (pc' := 53) kc_iconst_0 rfl ?_
          refine g_iretR hC hRt rfl dX2_sizeOf_53 ?_
          rw [hs0]
      · have hsz : szN C = if C / 2 ^ (8 * k) = 0 then k else 0 := hq.trans (scn_end hCb hk2 h25)
        refine g_lload_3 hC dX2_sizeOf_28 (pc' := 29) rfl ?_
        refine g_lconst hC dX2_sizeOf_29 (pc' := 30) (v := 0) rfl rfl ?_
        refine g_lcmp hC dX2_sizeOf_30 (pc' := 31) rfl ?_
        refine g_ifI_ne hC dX2_sizeOf_31 (pc' := 34) (tgt := 38) (by decide) rfl (fun h31 => ?_) (fun h31 => ?_)
        · have hs0 : szN C = 0 := hsz.trans (if_neg (fun z => h31 ((lcmp0 hdk0).mpr z)))
          refine g_iconst hC dX2_sizeOf_38 (pc' := 39) kc_iconst_0 rfl ?_
          refine g_iretR hC hRt rfl dX2_sizeOf_39 ?_
          first | rw [hsk] | rw [hs0]
        · have hsk : szN C = k := hsz.trans (if_pos ((lcmp0 hdk0).mp h31))
          refine g_iload_2 hC dX2_sizeOf_34 (pc' := 35) rfl ?_
          refine g_goto hC dX2_sizeOf_35 (tgt := 39) (by decide) ?_
          refine g_iretR hC hRt rfl dX2_sizeOf_39 ?_
          first | rw [hsk] | rw [hs0]
  exact g_weak (L2 0 (by exact Nat.zero_le _) rfl) (gle_s (gle_u (gle_s (gle_u (gle_u (gle_u gle_nil))))))

set_option maxHeartbeats 4000000 in
set_option maxRecDepth 100000 in
theorem c_append {l : Launch} {ad : Nat → Nat} {X : gX} {C : Nat} (hCb : C < 18446744073709551616) {pad : Nat → Nat} {len : Nat} (hd : PC X pad len) (h0 : ¬ szN C = 0) (h80 : len + szN C ≤ 80) : K_X2_append l ad [.ref 160, .long (lN (C)), .int (nI (szN C))] X (fun X' => PC X' (padP pad len (lN C)) (len + szN C) ∧ ∀ i, i ≠ 160 → i ≠ 161 → X' i = X i) := by
  refine Ct.of [.ref 160, .long (lN (C)), .null, .int (nI (szN C)), .null] 1 (by decide +kernel) rfl (Nat.le_of_ble_eq_true rfl) (fun F hl hC hRt _ => ?_)
  subst hl
  have hcN : cN (lN C) = C := wb_tn hCb
  have h8 := szN_le C
  refine g_iload_3 hC dX2_append_0 (pc' := 1) rfl ?_
  refine g_iconst hC dX2_append_1 (pc' := 2) kc_iconst_1 rfl ?_
  refine g_isub hC dX2_append_2 (pc' := 3) rfl ?_
  refine g_istore_4 hC dX2_append_3 (pc' := 5) rfl (Nat.le_of_ble_eq_true rfl) rfl ?_
  have L5 : ∀ m, m ≤ szN C → ∀ X1 : gX, ((∀ i, i ≠ 160 → i ≠ 161 → X1 i = X i) ∧ X1 160 0 = nI (len + m) ∧ (∀ j, j < len → X1 161 j = X 161 j) ∧ ∀ j, len ≤ j → j < len + m → X1 161 j = nI (byt C (len + szN C - 1 - j))) → G F (S0 ad) (0, 0) X1 5 [.ref 160, .long (lN (C)), .null, .int (nI (szN C)), .int (lI (szN C - m))] [] := by
    refine up_ind _ (fun m hk5 ih5 => ?_)
    intro X1 hm5
    refine g_iload_4 hC dX2_append_5 (pc' := 7) rfl ?_
    refine g_if_lt hC dX2_append_7 (pc' := 10) (tgt := 57) (by decide) rfl (fun h7 => ?_) (fun h7 => ?_)
    · have hmn : m = szN C := by have := (lI_neg (by omega)).mp h7; omega
      refine g_vretV hC hRt dX2_append_57 ?_
      rw [hmn] at hm5
      refine ⟨⟨hm5.2.1, h80, fun i hi => ?_⟩, hm5.1⟩
      unfold padP
      rw [hcN]
      by_cases hli : len ≤ i
      · rw [if_pos hli]
        have := scn_ok 8 0 h0 (len + szN C - 1 - i) (Nat.zero_le _) (by show _ < szN C; omega) (by decide)
        exact ⟨hm5.2.2.2 i hli hi, this.1, this.2⟩
      · rw [if_neg hli, hm5.2.2.1 i (by omega)]
        exact hd.2.2 i (by omega)
    · have hmn : m < szN C := Nat.not_le.mp fun z => h7 ((lI_neg (by omega)).mpr (by omega))
      rw [lI_pos (show 1 ≤ szN C - m by omega)]
      have hdm : C / 2 ^ (8 * (szN C - m - 1)) < 18446744073709551616 := Nat.lt_of_le_of_lt (Nat.div_le_self _ _) hCb
      refine g_aload_0 hC dX2_append_10 (pc' := 11) rfl ?_
      refine g_getI hC fl_X2_9 (sh_cpad ad) rfl (hm5.2.1) dX2_append_11 (pc' := 14) rfl ?_
      refine g_bipush hC dX2_append_14 (pc' := 16) kc_bipush_80 rfl ?_
      refine g_icmpN_ge hC dX2_append_16 (pc' := 19) (tgt := 51) (by decide) rfl (by omega) (by omega) (fun h16 => by omega) (fun h16 => ?_)
      refine g_aload_0 hC dX2_append_19 (pc' := 20) rfl ?_
      refine g_getR hC fl_X2_15 (sh_cpad ad) rfl dX2_append_20 (pc' := 23) rfl ?_
      refine g_aload_0 hC dX2_append_23 (pc' := 24) rfl ?_
      refine g_getI hC fl_X2_9 (sh_cpad ad) rfl (hm5.2.1) dX2_append_24 (pc' := 27) rfl ?_
      refine g_lload_1 hC dX2_append_27 (pc' := 28) rfl ?_
      refine g_bipush hC dX2_append_28 (pc' := 30) kc_bipush_8 rfl ?_
      refine g_iload_4 hC dX2_append_30 (pc' := 32) rfl ?_
      refine g_imulN hC dX2_append_32 (pc' := 33) rfl ?_
      refine g_lushrN hC dX2_append_33 (pc' := 34) rfl (by omega) (by omega) ?_
      refine g_ldc2 hC kl_X2_19 dX2_append_34 (pc' := 37) rfl ?_
      refine g_land255 hC dX2_append_37 (pc' := 38) rfl (by omega) ?_
      refine g_l2i hC dX2_append_38 (pc' := 39) (lN_i _) rfl ?_
      refine g_i2c hC dX2_append_39 (pc' := 40) (i2c_N (by omega)) rfl ?_
      refine g_cast hC (sh_codes ad) (Nat.le_of_ble_eq_true rfl) (by omega) (nar_c (by omega)) dX2_append_40 (pc' := 41) rfl ?_
      refine g_aload_0 hC dX2_append_41 (pc' := 42) rfl ?_
      refine g_dup hC dX2_append_42 (pc' := 43) rfl rfl ?_
      refine g_getI hC fl_X2_9 (sh_cpad ad) rfl ((congrFun (gu_ne 160 (by decide)) 0).trans hm5.2.1) dX2_append_43 (pc' := 46) rfl ?_
      refine g_iconst hC dX2_append_46 (pc' := 47) kc_iconst_1 rfl ?_
      refine g_iaddN hC dX2_append_47 (pc' := 48) rfl ?_
      refine g_putI hC fl_X2_9 (sh_cpad ad) rfl rfl rfl dX2_append_48 (pc' := 51) rfl ?_
      refine g_iinc_4 hC dX2_append_51 (pc' := 54) rfl (Nat.le_of_ble_eq_true rfl) rfl (nI_lI kc_iinc_m1) ?_
      refine g_goto hC dX2_append_54 (tgt := 5) (by decide) ?_
      exact g_weak (ih5 (by omega) _ (by exact ap_step hm5 (by omega))) (gle_s (gle_s (gle_u (gle_s (gle_i (by exact congrArg lI (by omega)) gle_nil)))))
  exact g_weak (L5 0 (by exact Nat.zero_le _) _ (by exact ⟨fun _ _ _ => rfl, hd.1, fun _ _ => rfl, fun j h1 h2 => by omega⟩)) (gle_s (gle_s (gle_u (gle_s (gle_i (by rfl) gle_nil)))))
