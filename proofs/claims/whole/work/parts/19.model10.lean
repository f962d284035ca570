def SV (X : gX) (sv : Nat → Bool) (sg : Nat → Nat → Nat) : Prop := ∀ s, s < 2 → X 206 s = zI (sv s) ∧ (sv s = true → ∀ j, j < 470 → X 205 (470 * s + j) = ar (sg s) j)
theorem SV.w {X Y : gX} {sv : Nat → Bool} {sg : Nat → Nat → Nat} (h : SV X sv sg) (e5 : Y 205 = X 205) (e6 : Y 206 = X 206) : SV Y sv sg := fun s hs => ⟨by rw [e6]; exact (h s hs).1, fun hv j hj => by rw [e5]; exact (h s hs).2 hv j hj⟩
def okSlot (a : Int32) : Bool := inB a (nI 0) (nI 1)
def updS {α : Type} (f : Nat → α) (ok : Bool) (i : Nat) (v : α) : Nat → α := fun j => if ok = true ∧ j = i then v else f j
def rSave (g : Nat → Nat) (a : Int32) : Int32 := if inB a (nI 0) (nI 1) = true then nI (msk (inS g) 5) else -2
def okRest (sv : Nat → Bool) (a : Int32) : Bool := inB a (nI 0) (nI 1) && sv (cl a)
def rRest (sv : Nat → Bool) (sg : Nat → Nat → Nat) (a : Int32) : Int32 := if inB a (nI 0) (nI 1) = true then (if sv (cl a) = true then nI (msk (inS (sg (cl a))) 5) else -5) else -2
theorem sv_cp {X X1 : gX} {q k : Nat} (h : (∀ i, i ≠ 205 → X1 i = X i) ∧ ∀ j, X1 205 j = if q ≤ j ∧ j < q + k then X 202 (j - q) else X 205 j) : (∀ i, i ≠ 205 → gu X1 205 (q + k) (X 202 k) i = X i) ∧ ∀ j, gu X1 205 (q + k) (X 202 k) 205 j = if q ≤ j ∧ j < q + (k + 1) then X 202 (j - q) else X 205 j := by
  refine ⟨fun i hi => (gu_ne i hi).trans (h.1 i hi), fun j => ?_⟩
  by_cases hz : j = q + k
  · subst hz
    rw [gu_at, if_pos (by omega), show q + k - q = k by omega]
  · rw [gu_id hz, h.2 j]
    by_cases hy : q ≤ j ∧ j < q + k
    · rw [if_pos hy, if_pos (by omega)]
    · rw [if_neg hy, if_neg (by omega)]
theorem sv_end {X X1 : gX} {sv : Nat → Bool} {sg : Nat → Nat → Nat} {g : Nat → Nat} {s : Nat} (hs : s < 2) (hV : SV X sv sg) (hR : RM X g) (h : (∀ i, i ≠ 205 → X1 i = X i) ∧ ∀ j, X1 205 j = if s * 470 ≤ j ∧ j < s * 470 + 470 then X 202 (j - s * 470) else X 205 j) :
    SV (gu X1 206 s (nI 1)) (updS sv true s true) (updS sg true s g) ∧ ∀ i, i ≠ 205 → i ≠ 206 → gu X1 206 s (nI 1) i = X i := by
  refine ⟨fun t ht => ⟨?_, fun hv j hj => ?_⟩, fun i h5 h6 => (gu_ne i h6).trans (h.1 i h5)⟩
  · by_cases hts : t = s
    · subst hts
      rw [gu_at]
      simp [updS, zI_t]
    · rw [gu_id hts, h.1 206 (by decide), (hV t ht).1]
      simp [updS, hts]
  · rw [gu_ne 205 (by decide), h.2]
    by_cases hts : t = s
    · subst hts
      rw [if_pos (by omega), show 470 * t + j - t * 470 = j by omega, hR j hj]
      simp [updS]
    · rw [if_neg (by omega)]
      have e : updS sg true s g t = sg t := by simp [updS, hts]
      have e2 : updS sv true s true t = sv t := by simp [updS, hts]
      rw [e]
      rw [e2] at hv
      exact (hV t ht).2 hv j hj
theorem rst_step {Y X1 : gX} {g' : Nat → Nat} {k : Nat} (h : (∀ i, i ≠ 202 → X1 i = Y i) ∧ ∀ j, j < k → X1 202 j = ar g' j) : (∀ i, i ≠ 202 → gu X1 202 k (ar g' k) i = Y i) ∧ ∀ j, j < k + 1 → gu X1 202 k (ar g' k) 202 j = ar g' j := by
  refine ⟨fun i hi => (gu_ne i hi).trans (h.1 i hi), fun j hj => ?_⟩
  by_cases hz : j = k
  · subst hz; exact gu_at
  · rw [gu_id hz]; exact h.2 j (by omega)
def rUndo (n : Nat) : Int32 := if n = 0 then -5 else nI (n - 1)

set_option maxHeartbeats 4000000 in
set_option maxRecDepth 100000 in
theorem c_wipe {l : Launch} {ad : Nat → Nat} {X : gX} {len : Nat} (hl : X 201 7 = nI len) : K_X7_wipe l ad [.ref 201] X (fun rr X' => rr = nI len ∧ X' = gu X 201 7 (nI 0)) := by
  refine Ct.of [.ref 201, .null] 1 (by decide +kernel) rfl (Nat.le_of_ble_eq_true rfl) (fun F hl hC hRt _ => ?_)
  subst hl
  refine g_aload_0 hC dX7_wipe_0 (pc' := 1) rfl ?_
  refine g_getI hC fl_X7_156 (sh_M ad) rfl (hl) dX7_wipe_1 (pc' := 4) rfl ?_
  refine g_istore_1 hC dX7_wipe_4 (pc' := 5) rfl (Nat.le_of_ble_eq_true rfl) rfl ?_
  refine g_aload_0 hC dX7_wipe_5 (pc' := 6) rfl ?_
  refine g_iconst hC dX7_wipe_6 (pc' := 7) kc_iconst_0 rfl ?_
  refine g_putI hC fl_X7_156 (sh_M ad) rfl rfl rfl dX7_wipe_7 (pc' := 10) rfl ?_
  refine g_iload_1 hC dX7_wipe_10 (pc' := 11) rfl ?_
  refine g_iretI hC hRt rfl dX7_wipe_11 ?_
  exact ⟨rfl, rfl⟩

set_option maxHeartbeats 4000000 in
set_option maxRecDepth 100000 in
theorem c_undo {l : Launch} {ad : Nat → Nat} {X : gX} {n : Nat} {h : Nat → Nat → Nat} {g : Nat → Nat} (hm : MR X g n h false) : K_X7_undo l ad [.ref 201] X (fun rr X' => rr = rUndo n ∧ (if n = 0 then X' = X else MR X' (h (n - 1)) (n - 1) h false ∧ fW X X')) := by
  refine Ct.of [.ref 201, .null] 1 (by decide +kernel) rfl (Nat.le_of_ble_eq_true rfl) (fun F hl hC hRt _ => ?_)
  subst hl
  have hn6 := hm.2.2.1
  refine g_aload_0 hC dX7_undo_0 (pc' := 1) rfl ?_
  refine g_getI hC fl_X7_39 (sh_M ad) rfl (hm.2.1) dX7_undo_1 (pc' := 4) rfl ?_
  refine g_ifN_ne hC dX7_undo_4 (pc' := 7) (tgt := 10) (by decide) rfl (by omega) (fun h4 => ?_) (fun h4 => ?_)
  · refine g_aload_0 hC dX7_undo_10 (pc' := 11) rfl ?_
    refine g_dup hC dX7_undo_11 (pc' := 12) rfl rfl ?_
    refine g_getI hC fl_X7_39 (sh_M ad) rfl (hm.2.1) dX7_undo_12 (pc' := 15) rfl ?_
    refine g_iconst hC dX7_undo_15 (pc' := 16) kc_iconst_1 rfl ?_
    refine g_isubN hC dX7_undo_16 (pc' := 17) rfl (by omega) ?_
    refine g_putI hC fl_X7_39 (sh_M ad) rfl rfl rfl dX7_undo_17 (pc' := 20) rfl ?_
    refine g_iconst hC dX7_undo_20 (pc' := 21) kc_iconst_0 rfl ?_
    refine g_istore_1 hC dX7_undo_21 (pc' := 22) rfl (Nat.le_of_ble_eq_true rfl) rfl ?_
    have L22 : ∀ k, k ≤ 470 → ∀ X1 : gX, ((∀ i, i ≠ 202 → X1 i = gu X 201 3 (nI (n - 1)) i) ∧ ∀ j, j < k → X1 202 j = ar (h (n - 1)) j) → G F (S0 ad) (0, 0) X1 22 [.ref 201, .int (nI k)] [] := by
      refine up_ind _ (fun k hk22 ih22 => ?_)
      intro X1 hm22
      refine g_iload_1 hC dX7_undo_22 (pc' := 23) rfl ?_
      refine g_sipush hC dX7_undo_23 (pc' := 26) kc_sipush_470 rfl ?_
      refine g_icmpN_ge hC dX7_undo_26 (pc' := 29) (tgt := 56) (by decide) rfl (by omega) (by omega) (fun h26 => ?_) (fun h26 => ?_)
      · refine g_aload_0 hC dX7_undo_56 (pc' := 57) rfl ?_
        refine g_getI hC fl_X7_39 (sh_M ad) rfl (((congrFun (hm22.1 201 (by decide)) 3).trans gu_at)) dX7_undo_57 (pc' := 60) rfl ?_
        refine g_iretI hC hRt rfl dX7_undo_60 ?_
        refine ⟨by simp [rUndo, h4], ?_⟩
        rw [if_neg h4]
        rw [show k = 470 by omega] at hm22
        exact ⟨⟨hm22.2, (congrFun (hm22.1 201 (by decide)) 3).trans gu_at, by omega, fun i j hi hj => by rw [hm22.1 204 (by decide), gu_ne 204 (by decide)]; exact hm.2.2.2.1 i j (by omega) hj, by rw [hm22.1 201 (by decide), gu_id (by decide)]; exact hm.2.2.2.2⟩, ⟨fun i a b _ _ => (hm22.1 i b).trans (gu_ne i a), fun j hj => by rw [hm22.1 201 (by decide), gu_id hj]⟩⟩
      · have hv : X1 204 ((n - 1) * 470 + k) = ar (h (n - 1)) k := by rw [hm22.1 204 (by decide), gu_ne 204 (by decide), show (n - 1) * 470 + k = 470 * (n - 1) + k by omega]; exact hm.2.2.2.1 (n - 1) k (by omega) (by omega)
        refine g_aload_0 hC dX7_undo_29 (pc' := 30) rfl ?_
        refine g_getR hC fl_X7_7 (sh_M ad) rfl dX7_undo_30 (pc' := 33) rfl ?_
        refine g_iload_1 hC dX7_undo_33 (pc' := 34) rfl ?_
        refine g_aload_0 hC dX7_undo_34 (pc' := 35) rfl ?_
        refine g_getR hC fl_X7_16 (sh_M ad) rfl dX7_undo_35 (pc' := 38) rfl ?_
        refine g_aload_0 hC dX7_undo_38 (pc' := 39) rfl ?_
        refine g_getI hC fl_X7_39 (sh_M ad) rfl (((congrFun (hm22.1 201 (by decide)) 3).trans gu_at)) dX7_undo_39 (pc' := 42) rfl ?_
        refine g_sipush hC dX7_undo_42 (pc' := 45) kc_sipush_470 rfl ?_
        refine g_imulN hC dX7_undo_45 (pc' := 46) rfl ?_
        refine g_iload_1 hC dX7_undo_46 (pc' := 47) rfl ?_
        refine g_iaddN hC dX7_undo_47 (pc' := 48) rfl ?_
        refine g_iald hC (sh_mhistory ad) (Nat.le_of_ble_eq_true rfl) (by omega) (hv) dX7_undo_48 (pc' := 49) rfl ?_
        refine g_iast hC (sh_mnow ad) (Nat.le_of_ble_eq_true rfl) (by omega) dX7_undo_49 (pc' := 50) rfl ?_
        refine g_iinc_1 hC dX7_undo_50 (pc' := 53) rfl (Nat.le_of_ble_eq_true rfl) rfl (nI_inc _ _ kc_iinc_1) ?_
        refine g_goto hC dX7_undo_53 (tgt := 22) (by decide) ?_
        exact g_weak (ih22 (by omega) _ (by exact rst_step hm22)) (gle_s (gle_i (by first | rfl | omega) gle_nil))
    exact g_weak (L22 0 (by exact Nat.zero_le _) _ (by exact ⟨fun _ _ => rfl, fun j hj => absurd hj (Nat.not_lt_zero j)⟩)) (gle_s (gle_s gle_nil))
  · refine g_bipush hC dX7_undo_7 (pc' := 9) kc_bipush_m5 rfl ?_
    refine g_iretI hC hRt rfl dX7_undo_9 ?_
    exact ⟨by simp [rUndo, h4], by rw [if_pos h4]⟩

set_option maxHeartbeats 4000000 in
set_option maxRecDepth 100000 in
theorem c_save {l : Launch} {ad : Nat → Nat} {X : gX} {a : Int32} {sv : Nat → Bool} {sg : Nat → Nat → Nat} {g : Nat → Nat} (hV : SV X sv sg) (hR : RM X g) (hI : Inv g) : K_X7_save l ad [.ref 201, .int (a)] X (fun rr X' => rr = rSave g a ∧ SV X' (updS sv (okSlot a) (cl a) true) (updS sg (okSlot a) (cl a) g) ∧ ∀ i, i ≠ 205 → i ≠ 206 → X' i = X i) := by
  refine Ct.of [.ref 201, .int (a), .null] 1 (by decide +kernel) rfl (Nat.le_of_ble_eq_true rfl) (fun F hl hC hRt _ => ?_)
  subst hl
  refine g_iload_1 hC dX7_save_0 (pc' := 1) rfl ?_
  refine g_iconst hC dX7_save_1 (pc' := 2) kc_iconst_0 rfl ?_
  refine g_iconst hC dX7_save_2 (pc' := 3) kc_iconst_1 rfl ?_
  refine g_callS3R hC (c_in) ml_X7_43 ⟨(Nat.le_of_ble_eq_true rfl), (Nat.le_of_ble_eq_true rfl)⟩ (Nat.le_of_ble_eq_true rfl) dX7_save_3 (pc' := 6) rfl ⟨Nat.zero_le _, Nat.zero_le _⟩ ?_
  refine g_ifZ_ne hC dX7_save_6 (pc' := 9) (tgt := 12) (by decide) rfl (fun h6 => ?_) (fun h6 => ?_)
  · obtain ⟨s, rfl, -, hs⟩ := inB_N (by decide) h6 (by decide)
    have cs : cl (nI s) = s := cl_nI (by omega)
    refine g_iconst hC dX7_save_12 (pc' := 13) kc_iconst_0 rfl ?_
    refine g_istore_2 hC dX7_save_13 (pc' := 14) rfl (Nat.le_of_ble_eq_true rfl) rfl ?_
    have L14 : ∀ k, k ≤ 470 → ∀ X1 : gX, ((∀ i, i ≠ 205 → X1 i = X i) ∧ ∀ j, X1 205 j = if s * 470 ≤ j ∧ j < s * 470 + k then X 202 (j - s * 470) else X 205 j) → G F (S0 ad) (0, 0) X1 14 [.ref 201, .int (nI s), .int (nI k)] [] := by
      refine up_ind _ (fun k hk14 ih14 => ?_)
      intro X1 hm14
      have hv : X1 202 k = X 202 k := by rw [hm14.1 202 (by decide)]
      refine g_iload_2 hC dX7_save_14 (pc' := 15) rfl ?_
      refine g_sipush hC dX7_save_15 (pc' := 18) kc_sipush_470 rfl ?_
      refine g_icmpN_ge hC dX7_save_18 (pc' := 21) (tgt := 45) (by decide) rfl (by omega) (by omega) (fun h18 => ?_) (fun h18 => ?_)
      · refine g_aload_0 hC dX7_save_45 (pc' := 46) rfl ?_
        refine g_getR hC fl_X7_22 (sh_M ad) rfl dX7_save_46 (pc' := 49) rfl ?_
        refine g_iload_1 hC dX7_save_49 (pc' := 50) rfl ?_
        refine g_iconst hC dX7_save_50 (pc' := 51) kc_iconst_1 rfl ?_
        refine g_zast hC (sh_misSaved ad) (Nat.le_of_ble_eq_true rfl) (by omega) (by decide +kernel) dX7_save_51 (pc' := 52) rfl ?_
        refine g_aload_0 hC dX7_save_52 (pc' := 53) rfl ?_
        refine g_callV0R hC (c_stack (hR.of (by rw [gu_ne 202 (by decide)]; exact hm14.1 202 (by decide))) hI) ml_X7_148 (sh_M ad) rfl ⟨(Nat.le_of_ble_eq_true rfl), (Nat.le_of_ble_eq_true rfl)⟩ (Nat.le_of_ble_eq_true rfl) dX7_save_53 (pc' := 56) rfl ⟨Nat.zero_le _, Nat.zero_le _⟩ ?_
        refine g_iretI hC hRt rfl dX7_save_56 ?_
        rw [show k = 470 by omega] at hm14
        refine ⟨by simp only [rSave, h6, cs, ↓reduceIte], ?_⟩
        rw [show okSlot (nI s) = true from h6, cs]
        exact sv_end (by omega) hV hR hm14
      · refine g_aload_0 hC dX7_save_21 (pc' := 22) rfl ?_
        refine g_getR hC fl_X7_19 (sh_M ad) rfl dX7_save_22 (pc' := 25) rfl ?_
        refine g_iload_1 hC dX7_save_25 (pc' := 26) rfl ?_
        refine g_sipush hC dX7_save_26 (pc' := 29) kc_sipush_470 rfl ?_
        refine g_imulN hC dX7_save_29 (pc' := 30) rfl ?_
        refine g_iload_2 hC dX7_save_30 (pc' := 31) rfl ?_
        refine g_iaddN hC dX7_save_31 (pc' := 32) rfl ?_
        refine g_aload_0 hC dX7_save_32 (pc' := 33) rfl ?_
        refine g_getR hC fl_X7_7 (sh_M ad) rfl dX7_save_33 (pc' := 36) rfl ?_
        refine g_iload_2 hC dX7_save_36 (pc' := 37) rfl ?_
        refine g_iald hC (sh_mnow ad) (Nat.le_of_ble_eq_true rfl) (by omega) (hv) dX7_save_37 (pc' := 38) rfl ?_
        refine g_iast hC (sh_msaved ad) (Nat.le_of_ble_eq_true rfl) (by omega) dX7_save_38 (pc' := 39) rfl ?_
        refine g_iinc_2 hC dX7_save_39 (pc' := 42) rfl (Nat.le_of_ble_eq_true rfl) rfl (nI_inc _ _ kc_iinc_1) ?_
        refine g_goto hC dX7_save_42 (tgt := 14) (by decide) ?_
        exact g_weak (ih14 (by omega) _ (by exact sv_cp hm14)) (gle_s (gle_s (gle_i (by first | rfl | omega) gle_nil)))
    exact g_weak (L14 0 (by exact Nat.zero_le _) _ (by exact ⟨fun _ _ => rfl, fun j => by rw [if_neg (by omega)]⟩)) (gle_s (gle_s (gle_s gle_nil)))
  · refine g_bipush hC dX7_save_9 (pc' := 11) kc_bipush_m2 rfl ?_
    refine g_iretI hC hRt rfl dX7_save_11 ?_
    refine ⟨by simp only [rSave, h6, ↓reduceIte, Bool.false_eq_true], ?_, fun _ _ _ => rfl⟩
    have e1 : updS sv (okSlot a) (cl a) true = sv := by funext j; simp [updS, okSlot, h6]
    have e2 : updS sg (okSlot a) (cl a) g = sg := by funext j; simp [updS, okSlot, h6]
    rw [e1, e2]
    exact hV

set_option maxHeartbeats 4000000 in
set_option maxRecDepth 100000 in
theorem c_restore {l : Launch} {ad : Nat → Nat} {X : gX} {a : Int32} {sv : Nat → Bool} {sg : Nat → Nat → Nat} (hV : SV X sv sg) (hIs : ∀ s, s < 2 → sv s = true → Inv (sg s)) {n : Nat} {h : Nat → Nat → Nat} {b : Bool} {g : Nat → Nat} (hm : MR X g n h b) (hI : Inv g) : K_X7_restore l ad [.ref 201, .int (a)] X (fun rr X' => rr = rRest sv sg a ∧ MRc X' (okRest sv a) g (sg (cl a)) n h b ∧ fW X X') := by
  refine Ct.of [.ref 201, .int (a), .null] 1 (by decide +kernel) rfl (Nat.le_of_ble_eq_true rfl) (fun F hl hC hRt _ => ?_)
  subst hl
  refine g_iload_1 hC dX7_restore_0 (pc' := 1) rfl ?_
  refine g_iconst hC dX7_restore_1 (pc' := 2) kc_iconst_0 rfl ?_
  refine g_iconst hC dX7_restore_2 (pc' := 3) kc_iconst_1 rfl ?_
  refine g_callS3R hC (c_in) ml_X7_43 ⟨(Nat.le_of_ble_eq_true rfl), (Nat.le_of_ble_eq_true rfl)⟩ (Nat.le_of_ble_eq_true rfl) dX7_restore_3 (pc' := 6) rfl ⟨Nat.zero_le _, Nat.zero_le _⟩ ?_
  refine g_ifZ_ne hC dX7_restore_6 (pc' := 9) (tgt := 12) (by decide) rfl (fun h6 => ?_) (fun h6 => ?_)
  · obtain ⟨s, rfl, -, hs⟩ := inB_N (by decide) h6 (by decide)
    have cs : cl (nI s) = s := cl_nI (by omega)
    refine g_aload_0 hC dX7_restore_12 (pc' := 13) rfl ?_
    refine g_getR hC fl_X7_22 (sh_M ad) rfl dX7_restore_13 (pc' := 16) rfl ?_
    refine g_iload_1 hC dX7_restore_16 (pc' := 17) rfl ?_
    refine g_zald hC (sh_misSaved ad) (Nat.le_of_ble_eq_true rfl) (by omega) ((hV s (by omega)).1) dX7_restore_17 (pc' := 18) rfl ?_
    refine g_ifZ_ne hC dX7_restore_18 (pc' := 21) (tgt := 24) (by decide) rfl (fun h18 => ?_) (fun h18 => ?_)
    · refine g_aload_0 hC dX7_restore_24 (pc' := 25) rfl ?_
      refine g_callV0V hC (c_record hm hI) ml_X7_47 (sh_M ad) rfl ⟨(Nat.le_of_ble_eq_true rfl), (Nat.le_of_ble_eq_true rfl)⟩ (Nat.le_of_ble_eq_true rfl) dX7_restore_25 (pc' := 28) rfl ⟨Nat.zero_le _, Nat.zero_le _⟩ (fun X25 q25 => ?_)
      obtain ⟨m25, f25⟩ := q25
      refine g_iconst hC dX7_restore_28 (pc' := 29) kc_iconst_0 rfl ?_
      refine g_istore_2 hC dX7_restore_29 (pc' := 30) rfl (Nat.le_of_ble_eq_true rfl) rfl ?_
      have L30 : ∀ k, k ≤ 470 → ∀ X1 : gX, ((∀ i, i ≠ 202 → X1 i = X25 i) ∧ ∀ j, j < k → X1 202 j = ar (sg s) j) → G F (S0 ad) (0, 0) X1 30 [.ref 201, .int (nI s), .int (nI k)] [] := by
        refine up_ind _ (fun k hk30 ih30 => ?_)
        intro X1 hm30
        refine g_iload_2 hC dX7_restore_30 (pc' := 31) rfl ?_
        refine g_sipush hC dX7_restore_31 (pc' := 34) kc_sipush_470 rfl ?_
        refine g_icmpN_ge hC dX7_restore_34 (pc' := 37) (tgt := 61) (by decide) rfl (by omega) (by omega) (fun h34 => ?_) (fun h34 => ?_)
        · rw [show k = 470 by omega] at hm30
          refine g_aload_0 hC dX7_restore_61 (pc' := 62) rfl ?_
          refine g_callV0R hC (c_stack (g := sg s) hm30.2 (hIs s (by omega) h18)) ml_X7_148 (sh_M ad) rfl ⟨(Nat.le_of_ble_eq_true rfl), (Nat.le_of_ble_eq_true rfl)⟩ (Nat.le_of_ble_eq_true rfl) dX7_restore_62 (pc' := 65) rfl ⟨Nat.zero_le _, Nat.zero_le _⟩ ?_
          refine g_iretI hC hRt rfl dX7_restore_65 ?_
          refine ⟨?_, MRc_t ?_ ?_, f25.tr (fW.n hm30.1)⟩
          · simp only [rRest, okRest, cl_nI, h6, cs, h18, ↓reduceIte, Bool.false_eq_true, Bool.and_true, Bool.true_and]
          · simp only [okRest, cl_nI, h6, cs, h18, ↓reduceIte, Bool.false_eq_true, Bool.and_true, Bool.true_and, decide_true, decide_false, Bool.not_true, Bool.not_false]
          · rw [cs]
            exact m25.n hm30.2 hm30.1
        · have hv : X1 205 (s * 470 + k) = ar (sg s) k := by rw [hm30.1 205 (by decide), f25.1 205 (by decide) (by decide) (by decide) (by decide), show s * 470 + k = 470 * s + k by omega]; exact (hV s (by omega)).2 h18 k (by omega)
          refine g_aload_0 hC dX7_restore_37 (pc' := 38) rfl ?_
          refine g_getR hC fl_X7_7 (sh_M ad) rfl dX7_restore_38 (pc' := 41) rfl ?_
          refine g_iload_2 hC dX7_restore_41 (pc' := 42) rfl ?_
          refine g_aload_0 hC dX7_restore_42 (pc' := 43) rfl ?_
          refine g_getR hC fl_X7_19 (sh_M ad) rfl dX7_restore_43 (pc' := 46) rfl ?_
          refine g_iload_1 hC dX7_restore_46 (pc' := 47) rfl ?_
          refine g_sipush hC dX7_restore_47 (pc' := 50) kc_sipush_470 rfl ?_
          refine g_imulN hC dX7_restore_50 (pc' := 51) rfl ?_
          refine g_iload_2 hC dX7_restore_51 (pc' := 52) rfl ?_
          refine g_iaddN hC dX7_restore_52 (pc' := 53) rfl ?_
          refine g_iald hC (sh_msaved ad) (Nat.le_of_ble_eq_true rfl) (by omega) (hv) dX7_restore_53 (pc' := 54) rfl ?_
          refine g_iast hC (sh_mnow ad) (Nat.le_of_ble_eq_true rfl) (by omega) dX7_restore_54 (pc' := 55) rfl ?_
          refine g_iinc_2 hC dX7_restore_55 (pc' := 58) rfl (Nat.le_of_ble_eq_true rfl) rfl (nI_inc _ _ kc_iinc_1) ?_
          refine g_goto hC dX7_restore_58 (tgt := 30) (by decide) ?_
          exact g_weak (ih30 (by omega) _ (by exact rst_step hm30)) (gle_s (gle_s (gle_i (by first | rfl | omega) gle_nil)))
      exact g_weak (L30 0 (by exact Nat.zero_le _) _ (by exact ⟨fun _ _ => rfl, fun j hj => absurd hj (Nat.not_lt_zero j)⟩)) (gle_s (gle_s (gle_s gle_nil)))
    · refine g_bipush hC dX7_restore_21 (pc' := 23) kc_bipush_m5 rfl ?_
      refine g_iretI hC hRt rfl dX7_restore_23 ?_
      refine ⟨?_, MRc_f ?_ hm, fW.rf⟩
      · simp only [rRest, okRest, cl_nI, h6, cs, h18, ↓reduceIte, Bool.false_eq_true, Bool.and_true, Bool.true_and, Bool.and_false, Bool.false_and]
      · simp only [okRest, cl_nI, h6, cs, h18, ↓reduceIte, Bool.false_eq_true, Bool.and_true, Bool.true_and, Bool.and_false, Bool.false_and, decide_true, decide_false, Bool.not_true, Bool.not_false]
  · refine g_bipush hC dX7_restore_9 (pc' := 11) kc_bipush_m2 rfl ?_
    refine g_iretI hC hRt rfl dX7_restore_11 ?_
    refine ⟨?_, MRc_f ?_ hm, fW.rf⟩
    · simp only [rRest, okRest, cl_nI, h6, ↓reduceIte, Bool.false_eq_true, Bool.and_true, Bool.true_and, Bool.and_false, Bool.false_and]
    · simp only [okRest, cl_nI, h6, ↓reduceIte, Bool.false_eq_true, Bool.and_true, Bool.true_and, Bool.and_false, Bool.false_and, decide_true, decide_false, Bool.not_true, Bool.not_false]
