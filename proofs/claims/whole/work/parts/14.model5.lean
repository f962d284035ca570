def recN (b : Bool) (n : Nat) : Nat := if b = true then n else if n = 6 then 6 else n + 1
def recH (b : Bool) (h : Nat → Nat → Nat) (n : Nat) (g : Nat → Nat) : Nat → Nat → Nat := fun i => if b = true then h i else if n = 6 then (if i = 5 then g else h (i + 1)) else (if i = n then g else h i)
def HM (X : gX) (n : Nat) (h : Nat → Nat → Nat) : Prop := ∀ i j, i < n → j < 470 → X 204 (470 * i + j) = ar (h i) j
/-- the model's now, history and mode -/
def MR (X : gX) (g : Nat → Nat) (n : Nat) (h : Nat → Nat → Nat) (b : Bool) : Prop := RM X g ∧ X 201 3 = nI n ∧ n ≤ 6 ∧ HM X n h ∧ X 201 8 = zI b
/-- what a change may touch -/
def fW (X X' : gX) : Prop := (∀ i, i ≠ 201 → i ≠ 202 → i ≠ 204 → i ≠ 208 → X' i = X i) ∧ ∀ j, j ≠ 3 → X' 201 j = X 201 j
theorem fW.rf {X : gX} : fW X X := ⟨fun _ _ _ _ _ => rfl, fun _ _ => rfl⟩
theorem fW.tr {X Y W : gX} (h : fW X Y) (h2 : fW Y W) : fW X W := ⟨fun i a b c d => (h2.1 i a b c d).trans (h.1 i a b c d), fun j hj => (h2.2 j hj).trans (h.2 j hj)⟩
theorem fW.n {X Y : gX} (h : ∀ i, i ≠ 202 → Y i = X i) : fW X Y := ⟨fun i _ h2 _ _ => h i h2, fun j _ => by rw [h 201 (by decide)]⟩
theorem fW.c {X Y : gX} (h : ∀ i, i ≠ 208 → Y i = X i) : fW X Y := ⟨fun i _ _ _ h2 => h i h2, fun j _ => by rw [h 201 (by decide)]⟩
theorem MR.c {X Y : gX} {g : Nat → Nat} {n : Nat} {h : Nat → Nat → Nat} {b : Bool} (m : MR X g n h b) (e : ∀ i, i ≠ 208 → Y i = X i) : MR Y g n h b :=
  ⟨m.1.of (e 202 (by decide)), by rw [e 201 (by decide)]; exact m.2.1, m.2.2.1, fun i j hi hj => by rw [e 204 (by decide)]; exact m.2.2.2.1 i j hi hj, by rw [e 201 (by decide)]; exact m.2.2.2.2⟩
theorem MR.n {X Y : gX} {g g' : Nat → Nat} {n : Nat} {h : Nat → Nat → Nat} {b : Bool} (m : MR X g n h b) (r : RM Y g') (e : ∀ i, i ≠ 202 → Y i = X i) : MR Y g' n h b :=
  ⟨r, by rw [e 201 (by decide)]; exact m.2.1, m.2.2.1, fun i j hi hj => by rw [e 204 (by decide)]; exact m.2.2.2.1 i j hi hj, by rw [e 201 (by decide)]; exact m.2.2.2.2⟩
theorem MR.congr {X : gX} {g g' : Nat → Nat} {n : Nat} {h : Nat → Nat → Nat} {b : Bool} (m : MR X g n h b) (e : ∀ j, j < 470 → g j = g' j) : MR X g' n h b := ⟨m.1.congr e, m.2⟩
theorem gu_id {X : gX} {a j k : Nat} {x : Int32} (h : k ≠ j) : gu X a j x a k = X a k := gu_other (fun z => h z.2)
theorem rec_sh1 {X X1 : gX} {k : Nat} (h : (∀ i, i ≠ 204 → X1 i = X i) ∧ ∀ j, X1 204 j = if j < k then X 204 (j + 470) else X 204 j) : (∀ i, i ≠ 204 → gu X1 204 k (X 204 (k + 470)) i = X i) ∧ ∀ j, gu X1 204 k (X 204 (k + 470)) 204 j = if j < k + 1 then X 204 (j + 470) else X 204 j := by
  refine ⟨fun i hi => (gu_ne i hi).trans (h.1 i hi), fun j => ?_⟩
  by_cases hz : j = k
  · subst hz
    rw [gu_at, if_pos (Nat.lt_succ_self _)]
  · rw [gu_id hz, h.2 j]
    by_cases hy : j < k
    · rw [if_pos hy, if_pos (by omega)]
    · rw [if_neg hy, if_neg (by omega)]
theorem rec_cp1 {Y X1 : gX} {q k : Nat} {g : Nat → Nat} (h : (∀ i, i ≠ 204 → X1 i = Y i) ∧ ∀ j, X1 204 j = if q ≤ j ∧ j < q + k then ar g (j - q) else Y 204 j) : (∀ i, i ≠ 204 → gu X1 204 (q + k) (ar g k) i = Y i) ∧ ∀ j, gu X1 204 (q + k) (ar g k) 204 j = if q ≤ j ∧ j < q + (k + 1) then ar g (j - q) else Y 204 j := by
  refine ⟨fun i hi => (gu_ne i hi).trans (h.1 i hi), fun j => ?_⟩
  by_cases hz : j = q + k
  · subst hz
    rw [gu_at, if_pos (by omega), show q + k - q = k by omega]
  · rw [gu_id hz, h.2 j]
    by_cases hy : q ≤ j ∧ j < q + k
    · rw [if_pos hy, if_pos (by omega)]
    · rw [if_neg hy, if_neg (by omega)]
/-- the recording of a state: the last copy, and the count -/
theorem rec_end {X Y W : gX} {g : Nat → Nat} {n m : Nat} {h : Nat → Nat → Nat} (hm : MR X g n h false) (hmn : m = if n = 6 then 5 else n)
    (hY : (∀ i, i ≠ 201 → i ≠ 204 → Y i = X i) ∧ (∀ j, j ≠ 3 → Y 201 j = X 201 j) ∧ ∀ j, Y 204 j = if n = 6 ∧ j < 2350 then X 204 (j + 470) else X 204 j)
    (hW : (∀ i, i ≠ 204 → W i = Y i) ∧ ∀ j, W 204 j = if m * 470 ≤ j ∧ j < m * 470 + 470 then ar g (j - m * 470) else Y 204 j) :
    MR (gu W 201 3 (nI (m + 1))) g (recN false n) (recH false h n g) false ∧ fW X (gu W 201 3 (nI (m + 1))) := by
  have hn := hm.2.2.1
  have e1 : recN false n = m + 1 := by rw [hmn]; unfold recN; simp only [Bool.false_eq_true, if_false]; split <;> omega
  refine ⟨⟨?_, ?_, ?_, ?_, ?_⟩, ?_, ?_⟩
  · exact hm.1.of (((gu_ne 202 (by decide)).trans (hW.1 202 (by decide))).trans (hY.1 202 (by decide) (by decide)))
  · rw [e1]; exact gu_at
  · rw [e1, hmn]; split <;> omega
  · intro i j hi hj
    rw [e1] at hi
    rw [gu_ne 204 (by decide), hW.2]
    by_cases him : i = m
    · subst him
      rw [if_pos (by omega), show 470 * i + j - i * 470 = j by omega]
      unfold recH
      simp only [Bool.false_eq_true, if_false]
      by_cases h6 : n = 6
      · rw [if_pos h6, if_pos (by rw [hmn, if_pos h6])]
      · rw [if_neg h6, if_pos (by rw [hmn, if_neg h6])]
    · rw [if_neg (by omega), hY.2.2]
      unfold recH
      simp only [Bool.false_eq_true, if_false]
      by_cases h6 : n = 6
      · rw [if_pos h6] at hmn
        rw [if_pos ⟨h6, by omega⟩, if_pos h6, if_neg (by omega), show 470 * i + j + 470 = 470 * (i + 1) + j by omega]
        exact hm.2.2.2.1 (i + 1) j (by omega) hj
      · rw [if_neg h6] at hmn
        rw [if_neg (by omega), if_neg h6, if_neg (by omega)]
        exact hm.2.2.2.1 i j (by omega) hj
  · rw [gu_id (by decide), hW.1 201 (by decide), hY.2.1 8 (by decide)]
    exact hm.2.2.2.2
  · intro i h1 h2 h3 h4
    exact ((gu_ne i h1).trans (hW.1 i h3)).trans (hY.1 i h1 h3)
  · intro j hj
    rw [gu_id hj, hW.1 201 (by decide)]
    exact hY.2.1 j hj
theorem MR.rec1 {X : gX} {g : Nat → Nat} {n : Nat} {h : Nat → Nat → Nat} (m : MR X g n h true) : MR X g (recN true n) (recH true h n g) true := m

set_option maxHeartbeats 4000000 in
set_option maxRecDepth 100000 in
theorem c_record {l : Launch} {ad : Nat → Nat} {X : gX} {n : Nat} {h : Nat → Nat → Nat} {b : Bool} {g : Nat → Nat} (hm : MR X g n h b) (hI : Inv g) : K_X7_record l ad [.ref 201] X (fun X' => MR X' g (recN b n) (recH b h n g) b ∧ fW X X') := by
  refine Ct.of [.ref 201, .null] 1 (by decide +kernel) rfl (Nat.le_of_ble_eq_true rfl) (fun F hl hC hRt _ => ?_)
  subst hl
  have hn6 : n ≤ 6 := hm.2.2.1
  have b23 : g 2 ≤ g 3 ∧ g 3 ≤ 5 := hI.1.2.2
  refine g_aload_0 hC dX7_record_0 (pc' := 1) rfl ?_
  refine g_getI hC fl_X7_35 (sh_M ad) rfl (hm.2.2.2.2) dX7_record_1 (pc' := 4) rfl ?_
  refine g_ifZ_eq hC dX7_record_4 (pc' := 7) (tgt := 8) (by decide) rfl (fun h4 => ?_) (fun h4 => ?_)
  · subst h4
    refine g_aload_0 hC dX7_record_8 (pc' := 9) rfl ?_
    refine g_getI hC fl_X7_39 (sh_M ad) rfl (hm.2.1) dX7_record_9 (pc' := 12) rfl ?_
    refine g_bipush hC dX7_record_12 (pc' := 14) kc_bipush_6 rfl ?_
    have J53 : ∀ (m : Nat) (Y : gX), m = (if n = 6 then 5 else n) → ((∀ i, i ≠ 201 → i ≠ 204 → Y i = X i) ∧ (∀ j, j ≠ 3 → Y 201 j = X 201 j) ∧ ∀ j, Y 204 j = if n = 6 ∧ j < 2350 then X 204 (j + 470) else X 204 j) → Y 201 3 = nI m → G F (S0 ad) (0, 0) Y 53 [.ref 201, .null] [] := by
      intro m Y hmn hY hY3; have hm5 : m ≤ 5 := by rw [hmn]; split <;> omega
      refine g_iconst hC dX7_record_53 (pc' := 54) kc_iconst_0 rfl ?_
      refine g_istore_1 hC dX7_record_54 (pc' := 55) rfl (Nat.le_of_ble_eq_true rfl) rfl ?_
      have L55 : ∀ k, k ≤ 470 → ∀ X2 : gX, ((∀ i, i ≠ 204 → X2 i = Y i) ∧ ∀ j, X2 204 j = if m * 470 ≤ j ∧ j < m * 470 + k then ar g (j - m * 470) else Y 204 j) → G F (S0 ad) (0, 0) X2 55 [.ref 201, .int (nI k)] [] := by
        refine up_ind _ (fun k hk55 ih55 => ?_)
        intro X2 hm55
        have hY3 : X2 201 3 = nI m := by rw [hm55.1 201 (by decide)]; exact hY3
        have hW3 := hY3
        refine g_iload_1 hC dX7_record_55 (pc' := 56) rfl ?_
        refine g_sipush hC dX7_record_56 (pc' := 59) kc_sipush_470 rfl ?_
        refine g_icmpN_ge hC dX7_record_59 (pc' := 62) (tgt := 89) (by decide) rfl (by omega) (by omega) (fun h59 => ?_) (fun h59 => ?_)
        · refine g_aload_0 hC dX7_record_89 (pc' := 90) rfl ?_
          refine g_dup hC dX7_record_90 (pc' := 91) rfl rfl ?_
          refine g_getI hC fl_X7_39 (sh_M ad) rfl (hW3) dX7_record_91 (pc' := 94) rfl ?_
          refine g_iconst hC dX7_record_94 (pc' := 95) kc_iconst_1 rfl ?_
          refine g_iaddN hC dX7_record_95 (pc' := 96) rfl ?_
          refine g_putI hC fl_X7_39 (sh_M ad) rfl rfl rfl dX7_record_96 (pc' := 99) rfl ?_
          refine g_vretV hC hRt dX7_record_99 ?_
          exact rec_end hm hmn hY (by rw [show k = 470 by omega] at hm55; exact hm55)
        · have he81 : X2 202 k = ar g k := by rw [hm55.1 202 (by decide), hY.1 202 (by decide) (by decide)]; exact hm.1 k (by omega)
          refine g_aload_0 hC dX7_record_62 (pc' := 63) rfl ?_
          refine g_getR hC fl_X7_16 (sh_M ad) rfl dX7_record_63 (pc' := 66) rfl ?_
          refine g_aload_0 hC dX7_record_66 (pc' := 67) rfl ?_
          refine g_getI hC fl_X7_39 (sh_M ad) rfl (hY3) dX7_record_67 (pc' := 70) rfl ?_
          refine g_sipush hC dX7_record_70 (pc' := 73) kc_sipush_470 rfl ?_
          refine g_imulN hC dX7_record_73 (pc' := 74) rfl ?_
          refine g_iload_1 hC dX7_record_74 (pc' := 75) rfl ?_
          refine g_iaddN hC dX7_record_75 (pc' := 76) rfl ?_
          refine g_aload_0 hC dX7_record_76 (pc' := 77) rfl ?_
          refine g_getR hC fl_X7_7 (sh_M ad) rfl dX7_record_77 (pc' := 80) rfl ?_
          refine g_iload_1 hC dX7_record_80 (pc' := 81) rfl ?_
          refine g_iald hC (sh_mnow ad) (Nat.le_of_ble_eq_true rfl) (by omega) (he81) dX7_record_81 (pc' := 82) rfl ?_
          refine g_iast hC (sh_mhistory ad) (Nat.le_of_ble_eq_true rfl) (by omega) dX7_record_82 (pc' := 83) rfl ?_
          refine g_iinc_1 hC dX7_record_83 (pc' := 86) rfl (Nat.le_of_ble_eq_true rfl) rfl (nI_inc _ _ kc_iinc_1) ?_
          refine g_goto hC dX7_record_86 (tgt := 55) (by decide) ?_
          exact g_weak (ih55 (by omega) _ (by exact rec_cp1 hm55)) (gle_s (gle_i (by first | rfl | omega) gle_nil))
      exact g_weak (L55 0 (by exact Nat.zero_le _) _ (by exact ⟨fun _ _ => rfl, fun j => by rw [if_neg (by omega)]⟩)) (gle_s (gle_s gle_nil))
    refine g_icmpN_ne hC dX7_record_14 (pc' := 17) (tgt := 53) (by decide) rfl (by omega) (by omega) (fun h14 => ?_) (fun h14 => ?_)
    · exact g_weak (J53 n X (by rw [if_neg h14]) ⟨fun _ _ _ => rfl, fun _ _ => rfl, fun j => by rw [if_neg (fun w => h14 w.1)]⟩ hm.2.1) (gle_s (gle_u gle_nil))
    · refine g_iconst hC dX7_record_17 (pc' := 18) kc_iconst_0 rfl ?_
      refine g_istore_1 hC dX7_record_18 (pc' := 19) rfl (Nat.le_of_ble_eq_true rfl) rfl ?_
      have L19 : ∀ k, k ≤ 2350 → ∀ X1 : gX, ((∀ i, i ≠ 204 → X1 i = X i) ∧ ∀ j, X1 204 j = if j < k then X 204 (j + 470) else X 204 j) → G F (S0 ad) (0, 0) X1 19 [.ref 201, .int (nI k)] [] := by
        refine up_ind _ (fun k hk19 ih19 => ?_)
        intro X1 hm19
        have he40 : X1 204 (k + 470) = X 204 (k + 470) := by rw [hm19.2, if_neg (by omega)]
        refine g_iload_1 hC dX7_record_19 (pc' := 20) rfl ?_
        refine g_sipush hC dX7_record_20 (pc' := 23) kc_sipush_2350 rfl ?_
        refine g_icmpN_ge hC dX7_record_23 (pc' := 26) (tgt := 48) (by decide) rfl (by omega) (by omega) (fun h23 => ?_) (fun h23 => ?_)
        · refine g_aload_0 hC dX7_record_48 (pc' := 49) rfl ?_
          refine g_iconst hC dX7_record_49 (pc' := 50) kc_iconst_5 rfl ?_
          refine g_putI hC fl_X7_39 (sh_M ad) rfl rfl rfl dX7_record_50 (pc' := 53) rfl ?_
          exact g_weak (J53 5 _ (by rw [if_pos h14]) ⟨fun i h1 h2 => (gu_ne i h1).trans (hm19.1 i h2), fun j hj => (gu_id hj).trans (by rw [hm19.1 201 (by decide)]), fun j => by rw [gu_ne 204 (by decide), hm19.2 j, show k = 2350 by omega]; simp [h14]⟩ gu_at) (gle_s (gle_u gle_nil))
        · refine g_aload_0 hC dX7_record_26 (pc' := 27) rfl ?_
          refine g_getR hC fl_X7_16 (sh_M ad) rfl dX7_record_27 (pc' := 30) rfl ?_
          refine g_iload_1 hC dX7_record_30 (pc' := 31) rfl ?_
          refine g_aload_0 hC dX7_record_31 (pc' := 32) rfl ?_
          refine g_getR hC fl_X7_16 (sh_M ad) rfl dX7_record_32 (pc' := 35) rfl ?_
          refine g_iload_1 hC dX7_record_35 (pc' := 36) rfl ?_
          refine g_sipush hC dX7_record_36 (pc' := 39) kc_sipush_470 rfl ?_
          refine g_iaddN hC dX7_record_39 (pc' := 40) rfl ?_
          refine g_iald hC (sh_mhistory ad) (Nat.le_of_ble_eq_true rfl) (by omega) (he40) dX7_record_40 (pc' := 41) rfl ?_
          refine g_iast hC (sh_mhistory ad) (Nat.le_of_ble_eq_true rfl) (by omega) dX7_record_41 (pc' := 42) rfl ?_
          refine g_iinc_1 hC dX7_record_42 (pc' := 45) rfl (Nat.le_of_ble_eq_true rfl) rfl (nI_inc _ _ kc_iinc_1) ?_
          refine g_goto hC dX7_record_45 (tgt := 19) (by decide) ?_
          exact g_weak (ih19 (by omega) _ (by exact rec_sh1 hm19)) (gle_s (gle_i (by first | rfl | omega) gle_nil))
      exact g_weak (L19 0 (by exact Nat.zero_le _) _ (by exact ⟨fun _ _ => rfl, fun j => by rw [if_neg (Nat.not_lt_zero j)]⟩)) (gle_s (gle_s gle_nil))
  · subst h4
    refine g_vretV hC hRt dX7_record_7 ?_
    exact ⟨hm.rec1, fW.rf⟩
