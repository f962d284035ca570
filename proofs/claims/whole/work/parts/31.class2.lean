theorem SS.congr {X : gX} {b t : Nat} {g g' : Nat → Nat} (h : SS X b g t) (ht : t < 5) (e : ∀ j, j < 470 → g j = g' j) : SS X b g' t := by
  refine ⟨⟨?_, ?_, ?_⟩, fun f hf => ?_, fun f k hf hk hc => ?_⟩
  · rw [← e _ (by omega)]; exact h.1.1
  · rw [← e _ (by omega)]; exact h.1.2.1
  · rw [← e _ (by omega)]; exact h.1.2.2
  · have := h.2.1 f hf; unfold cnt at *; rw [← e _ (by omega)]; exact this
  · unfold cnt at hc; rw [← e _ (by omega)] at hc
    have := h.2.2 f k hf hk hc; unfold mk at *; rw [← e _ (by omega)]; exact this
theorem SS.of {X Y : gX} {b t : Nat} {g : Nat → Nat} (h : SS X b g t) (e0 : Y b = X b) (e1 : Y (b + 1) = X (b + 1)) (e2 : Y (b + 2) = X (b + 2)) : SS Y b g t := by
  unfold SS at *
  rw [e0, e1, e2]
  exact h
theorem SS_copy {X : gX} {b c t : Nat} {g : Nat → Nat} (hbc : b + 3 ≤ c ∨ c + 3 ≤ b) (h : SS X c g t) : SS (gcp (gcp (gu (gu (gu X b 0 (nI (g (4 + t)))) b 1 (nI (g (9 + t)))) b 2 (nI (g (14 + t)))) (c + 1) (b + 1) 10) (c + 2) (b + 2) 80) b g t ∧ ∀ i, i ≠ b → i ≠ b + 1 → i ≠ b + 2 → gcp (gcp (gu (gu (gu X b 0 (nI (g (4 + t)))) b 1 (nI (g (9 + t)))) b 2 (nI (g (14 + t)))) (c + 1) (b + 1) 10) (c + 2) (b + 2) 80 i = X i := by
  refine ⟨⟨⟨?_, ?_, ?_⟩, fun f hf => ?_, fun f k hf hk hc => ?_⟩, fun i h0 h1 h2 => ?_⟩
  · rw [gcp_ne _ (by omega), gcp_ne _ (by omega), gu_id (by decide), gu_id (by decide), gu_at]
  · rw [gcp_ne _ (by omega), gcp_ne _ (by omega), gu_id (by decide), gu_at]
  · rw [gcp_ne _ (by omega), gcp_ne _ (by omega), gu_at]
  · rw [gcp_ne _ (by omega), gcp_lt hf, gu_ne _ (by omega), gu_ne _ (by omega), gu_ne _ (by omega)]
    exact h.2.1 f hf
  · rw [gcp_lt (by omega), gcp_ne _ (by omega), gu_ne _ (by omega), gu_ne _ (by omega), gu_ne _ (by omega)]
    exact h.2.2 f k hf hk hc
  · rw [gcp_ne _ h2, gcp_ne _ h1, gu_ne _ h0, gu_ne _ h0, gu_ne _ h0]
theorem em_add {v p : Nat} (hp : p ≤ 9) : v * 32 ||| p * 2 = em (20 * v + 2 * p) := by
  have h := Nat.two_pow_add_eq_or_of_lt (i := 5) (b := p * 2) (by omega) v
  rw [show v * 32 = 2 ^ 5 * v by omega, ← h]
  unfold em
  omega
theorem em_one {m : Nat} (h : m % 2 = 0) : em m ||| 1 = em (m + 1) := by
  have e : em m = 2 ^ 1 * (em m / 2) := by unfold em; omega
  have h2 := Nat.two_pow_add_eq_or_of_lt (i := 1) (b := 1) (by omega) (em m / 2)
  rw [e, ← h2]
  unfold em
  omega
theorem addm_cnt {g : Nat → Nat} {s f v p s' f' : Nat} (hf : f < 10) (hs' : s' < 5) (hf' : f' < 10) : cnt (addm g s f v p) s' f' = if s' = s ∧ f' = f then cnt g s f + 1 else cnt g s' f' := by
  by_cases h : s' = s ∧ f' = f
  · rw [if_pos h, h.1, h.2]
    show updN _ (20 + (10 * s + f)) _ (20 + (10 * s + f)) = _
    unfold updN
    rw [if_pos rfl]
  · rw [if_neg h]
    show updN (updN g _ _) (20 + (10 * s + f)) _ (20 + (10 * s' + f')) = _
    unfold updN
    rw [if_neg (by omega), if_neg (by omega)]
    rfl
theorem addm_mk {g : Nat → Nat} {s f v p s' f' k : Nat} (hs : s < 5) (hf : f < 10) (hf' : f' < 10) (hk : k < 8) (hc : cnt g s f < 8) : mk (addm g s f v p) s' f' k = if s' = s ∧ f' = f ∧ k = cnt g s f then 20 * v + 2 * p else mk g s' f' k := by
  show updN (updN g _ _) (20 + (10 * s + f)) _ (70 + 8 * (10 * s' + f') + k) = _
  unfold updN
  rw [if_neg (by omega)]
  by_cases h : s' = s ∧ f' = f ∧ k = cnt g s f
  · obtain ⟨rfl, rfl, rfl⟩ := h
    rw [if_pos rfl, if_pos ⟨rfl, rfl, rfl⟩]
  · rw [if_neg h, if_neg (by omega)]
    rfl
theorem SS_add {X : gX} {b t f v p : Nat} {g : Nat → Nat} (ht : t < 5) (hf : f < 10) (hc : cnt g t f < 8) (h : SS X b g t) : SS (gu (gu X (b + 2) (f * 8 + cnt g t f) (nI (em (20 * v + 2 * p)))) (b + 1) f (nI (cnt g t f + 1))) b (addm g t f v p) t := by
  refine ⟨?_, fun f' hf' => ?_, fun f' k hf' hk hk2 => ?_⟩
  · rw [gu_ne _ (by omega), gu_ne _ (by omega)]
    have e : ∀ j, j < 20 → addm g t f v p j = g j := fun j hj => by unfold addm updN; rw [if_neg (by omega), if_neg (by omega)]
    rw [e _ (by omega), e _ (by omega), e _ (by omega)]
    exact h.1
  · rw [addm_cnt hf ht hf']
    by_cases hz : f' = f
    · subst hz; rw [gu_at, if_pos ⟨rfl, rfl⟩]
    · rw [gu_id hz, gu_ne _ (by omega), if_neg (fun w => hz w.2)]; exact h.2.1 f' hf'
  · rw [addm_cnt hf ht hf'] at hk2
    rw [addm_mk ht hf hf' hk hc, gu_ne _ (by omega)]
    by_cases hz : f' = f ∧ k = cnt g t f
    · obtain ⟨rfl, rfl⟩ := hz
      rw [gu_at, if_pos ⟨rfl, rfl, rfl⟩]
    · rw [gu_id (by omega), if_neg (fun w => hz w.2)]
      refine h.2.2 f' k hf' hk ?_
      split at hk2
      · rename_i hh; rw [hh.2]; omega
      · exact hk2
theorem stz_cnt {g : Nat → Nat} {s f b q n : Nat} (hs : s < 5) (hf : f < 10) (hb : 70 ≤ b) : cnt (stz g b q n) s f = cnt g s f := stz_ge (by omega)
theorem Inv_stz {g : Nat → Nat} {b q n : Nat} (hI : Inv g) (hb : 70 ≤ b) : Inv (stz g b q n) := by
  have e : ∀ j, j < 70 → stz g b q n j = g j := fun j hj => stz_ge (by omega)
  refine ⟨?_, fun t ht => ?_, fun s f a c => ?_, fun s f k a c d => ?_, fun s f k a c d => ?_⟩
  · rw [e 0 (by omega), e 1 (by omega), e 2 (by omega), e 3 (by omega)]; exact hI.1
  · rw [e _ (by omega), e _ (by omega), e _ (by omega)]; exact hI.t ht
  · rw [stz_cnt a c hb]; exact hI.c a c
  · have := hI.m a c d
    unfold mk at *
    unfold stz
    split <;> omega
  · rw [stz_cnt a c hb] at d
    have := hI.p a c d
    unfold mk at *
    unfold stz
    split <;> omega
theorem SS_str {X : gX} {b t f q k : Nat} {g : Nat → Nat} (ht : t < 5) (hf : f < 10) (hk : k < 8) (h : SS X b (stz g (70 + 8 * (10 * t + f)) q k) t) (h0 : mk g t f k % 2 = 0) (h1 : mk g t f k / 2 % 10 ≤ q) : SS (gu X (b + 2) (f * 8 + k) (nI (em (mk g t f k + 1)))) b (stz g (70 + 8 * (10 * t + f)) q (k + 1)) t := by
  have e := fun j (hj : j < 470) => stz_step1 hj h0 h1
  refine SS.congr ?_ ht e
  have ec : ∀ f', f' < 10 → cnt (updN (stz g (70 + 8 * (10 * t + f)) q k) (70 + 8 * (10 * t + f) + k) (mk g t f k + 1)) t f' = cnt (stz g (70 + 8 * (10 * t + f)) q k) t f' := fun f' hf' => by unfold cnt updN; rw [if_neg (by omega)]
  have e2 : ∀ j, j < 20 → updN (stz g (70 + 8 * (10 * t + f)) q k) (70 + 8 * (10 * t + f) + k) (mk g t f k + 1) j = stz g (70 + 8 * (10 * t + f)) q k j := fun j hj => by unfold updN; rw [if_neg (by omega)]
  refine ⟨?_, fun f' hf' => ?_, fun f' k' hf' hk' hc => ?_⟩
  · rw [gu_ne _ (by omega), e2 _ (by omega), e2 _ (by omega), e2 _ (by omega)]; exact h.1
  · rw [gu_ne _ (by omega), ec f' hf']; exact h.2.1 f' hf'
  · rw [ec f' hf'] at hc
    by_cases hz : f' = f ∧ k' = k
    · obtain ⟨rfl, rfl⟩ := hz
      rw [gu_at]
      unfold mk updN
      rw [if_pos rfl]
    · rw [gu_id (by omega)]
      have := h.2.2 f' k' hf' hk' hc
      unfold mk updN at *
      rw [if_neg (by omega)]
      exact this

set_option maxHeartbeats 4000000 in
set_option maxRecDepth 100000 in
theorem c_sCopy {l : Launch} {ad : Nat → Nat} {X : gX} {B C t : Nat} {g : Nat → Nat} (hB : isB B) (hC2 : isB C) (hne : B ≠ C) (ht : t < 5) (hS : SS X (C + 4 + 3 * t) g t) : K_X3_copyFrom l ad [.ref (B + 4 + 3 * t), .ref (C + 4 + 3 * t)] X (fun X' => SS X' (B + 4 + 3 * t) g t ∧ ∀ i, i ≠ B + 4 + 3 * t → i ≠ B + 4 + 3 * t + 1 → i ≠ B + 4 + 3 * t + 2 → X' i = X i) := by
  refine Ct.of [.ref (B + 4 + 3 * t), .ref (C + 4 + 3 * t)] 0 (by decide +kernel) rfl (Nat.le_of_ble_eq_true rfl) (fun F hl hC hRt _ => ?_)
  subst hl
  have hap := isB_apart hB hC2
  refine g_aload_0 hC dX3_copyFrom_0 (pc' := 1) rfl ?_
  refine g_aload_1 hC dX3_copyFrom_1 (pc' := 2) rfl ?_
  refine g_getI hC fl_X3_9 (sh_sheet ad hC2 ht) rfl (hS.1.1) dX3_copyFrom_2 (pc' := 5) rfl ?_
  refine g_putI hC fl_X3_9 (sh_sheet ad hB ht) rfl rfl rfl dX3_copyFrom_5 (pc' := 8) rfl ?_
  refine g_aload_0 hC dX3_copyFrom_8 (pc' := 9) rfl ?_
  refine g_aload_1 hC dX3_copyFrom_9 (pc' := 10) rfl ?_
  refine g_getI hC fl_X3_15 (sh_sheet ad hC2 ht) rfl ((congrFun (gu_ne _ (by omega)) 1).trans hS.1.2.1) dX3_copyFrom_10 (pc' := 13) rfl ?_
  refine g_putI hC fl_X3_15 (sh_sheet ad hB ht) rfl rfl rfl dX3_copyFrom_13 (pc' := 16) rfl ?_
  refine g_aload_0 hC dX3_copyFrom_16 (pc' := 17) rfl ?_
  refine g_aload_1 hC dX3_copyFrom_17 (pc' := 18) rfl ?_
  refine g_getI hC fl_X3_18 (sh_sheet ad hC2 ht) rfl ((congrFun (gu_ne _ (by omega)) 2).trans ((congrFun (gu_ne _ (by omega)) 2).trans hS.1.2.2)) dX3_copyFrom_18 (pc' := 21) rfl ?_
  refine g_putI hC fl_X3_18 (sh_sheet ad hB ht) rfl rfl rfl dX3_copyFrom_21 (pc' := 24) rfl ?_
  refine g_aload_1 hC dX3_copyFrom_24 (pc' := 25) rfl ?_
  refine g_getR hC fl_X3_21 (sh_sheet ad hC2 ht) rfl dX3_copyFrom_25 (pc' := 28) rfl ?_
  refine g_iconst hC dX3_copyFrom_28 (pc' := 29) kc_iconst_0 rfl ?_
  refine g_aload_0 hC dX3_copyFrom_29 (pc' := 30) rfl ?_
  refine g_getR hC fl_X3_21 (sh_sheet ad hB ht) rfl dX3_copyFrom_30 (pc' := 33) rfl ?_
  refine g_iconst hC dX3_copyFrom_33 (pc' := 34) kc_iconst_0 rfl ?_
  refine g_bipush hC dX3_copyFrom_34 (pc' := 36) kc_bipush_10 rfl ?_
  refine g_acopy hC ml_X3_28 (sh_counts ad hC2 ht) (sh_counts ad hB ht) (by omega) (by omega) (by omega) ⟨(Nat.le_of_ble_eq_true rfl), (Nat.le_of_ble_eq_true rfl)⟩ dX3_copyFrom_36 (pc' := 39) rfl ?_
  refine g_aload_1 hC dX3_copyFrom_39 (pc' := 40) rfl ?_
  refine g_getR hC fl_X3_25 (sh_sheet ad hC2 ht) rfl dX3_copyFrom_40 (pc' := 43) rfl ?_
  refine g_iconst hC dX3_copyFrom_43 (pc' := 44) kc_iconst_0 rfl ?_
  refine g_aload_0 hC dX3_copyFrom_44 (pc' := 45) rfl ?_
  refine g_getR hC fl_X3_25 (sh_sheet ad hB ht) rfl dX3_copyFrom_45 (pc' := 48) rfl ?_
  refine g_iconst hC dX3_copyFrom_48 (pc' := 49) kc_iconst_0 rfl ?_
  refine g_bipush hC dX3_copyFrom_49 (pc' := 51) kc_bipush_80 rfl ?_
  refine g_acopy hC ml_X3_28 (sh_marks ad hC2 ht) (sh_marks ad hB ht) (by omega) (by omega) (by omega) ⟨(Nat.le_of_ble_eq_true rfl), (Nat.le_of_ble_eq_true rfl)⟩ dX3_copyFrom_51 (pc' := 54) rfl ?_
  refine g_vretV hC hRt dX3_copyFrom_54 ?_
  exact SS_copy (by omega) hS

set_option maxHeartbeats 4000000 in
set_option maxRecDepth 100000 in
theorem c_sAdd {l : Launch} {ad : Nat → Nat} {X : gX} {B t f v p : Nat} {g : Nat → Nat} (hB : isB B) (ht : t < 5) (hS : SS X (B + 4 + 3 * t) g t) (hf : f < 10) (hv : v ≤ 999) (hp : p ≤ 9) (hc : cnt g t f < 8) : K_X3_addMark l ad [.ref (B + 4 + 3 * t), .int (nI f), .int (nI v), .int (nI p)] X (fun X' => SS X' (B + 4 + 3 * t) (addm g t f v p) t ∧ ∀ i, i ≠ B + 4 + 3 * t + 1 → i ≠ B + 4 + 3 * t + 2 → X' i = X i) := by
  refine Ct.of [.ref (B + 4 + 3 * t), .int (nI f), .int (nI v), .int (nI p)] 0 (by decide +kernel) rfl (Nat.le_of_ble_eq_true rfl) (fun F hl hC hRt _ => ?_)
  subst hl
  refine g_aload_0 hC dX3_addMark_0 (pc' := 1) rfl ?_
  refine g_iload_1 hC dX3_addMark_1 (pc' := 2) rfl ?_
  refine g_callV1R hC (c_sRoom hB ht hf (hS.2.1 f hf) (by omega)) ml_X3_34 (sh_sheet ad hB ht) rfl ⟨(Nat.le_of_ble_eq_true rfl), (Nat.le_of_ble_eq_true rfl)⟩ (Nat.le_of_ble_eq_true rfl) dX3_addMark_2 (pc' := 5) rfl ⟨Nat.zero_le _, Nat.zero_le _⟩ ?_
  refine g_ifZ_ne hC dX3_addMark_5 (pc' := 8) (tgt := 9) (by decide) rfl (fun h5 => ?_) (fun h5 => by simp at h5; omega)
  refine g_aload_0 hC dX3_addMark_9 (pc' := 10) rfl ?_
  refine g_getR hC fl_X3_25 (sh_sheet ad hB ht) rfl dX3_addMark_10 (pc' := 13) rfl ?_
  refine g_iload_1 hC dX3_addMark_13 (pc' := 14) rfl ?_
  refine g_bipush hC dX3_addMark_14 (pc' := 16) kc_bipush_8 rfl ?_
  refine g_imulN hC dX3_addMark_16 (pc' := 17) rfl ?_
  refine g_aload_0 hC dX3_addMark_17 (pc' := 18) rfl ?_
  refine g_getR hC fl_X3_21 (sh_sheet ad hB ht) rfl dX3_addMark_18 (pc' := 21) rfl ?_
  refine g_iload_1 hC dX3_addMark_21 (pc' := 22) rfl ?_
  refine g_iald hC (sh_counts ad hB ht) (Nat.le_of_ble_eq_true rfl) (by omega) (hS.2.1 f hf) dX3_addMark_22 (pc' := 23) rfl ?_
  refine g_iaddN hC dX3_addMark_23 (pc' := 24) rfl ?_
  refine g_iload_2 hC dX3_addMark_24 (pc' := 25) rfl ?_
  refine g_iconst hC dX3_addMark_25 (pc' := 26) kc_iconst_5 rfl ?_
  refine g_ishlK hC dX3_addMark_26 (pc' := 27) rfl (by decide) (q := 32) (by decide) (by omega) ?_
  refine g_iload_3 hC dX3_addMark_27 (pc' := 28) rfl ?_
  refine g_iconst hC dX3_addMark_28 (pc' := 29) kc_iconst_1 rfl ?_
  refine g_ishlK hC dX3_addMark_29 (pc' := 30) rfl (by decide) (q := 2) (by decide) (by omega) ?_
  refine g_iorN hC dX3_addMark_30 (pc' := 31) rfl ?_
  rw [em_add (v := v) hp]
  refine g_iast hC (sh_marks ad hB ht) (Nat.le_of_ble_eq_true rfl) (by omega) dX3_addMark_31 (pc' := 32) rfl ?_
  refine g_aload_0 hC dX3_addMark_32 (pc' := 33) rfl ?_
  refine g_getR hC fl_X3_21 (sh_sheet ad hB ht) rfl dX3_addMark_33 (pc' := 36) rfl ?_
  refine g_iload_1 hC dX3_addMark_36 (pc' := 37) rfl ?_
  refine g_dup2 hC dX3_addMark_37 (pc' := 38) rfl rfl rfl ?_
  refine g_iald hC (sh_counts ad hB ht) (Nat.le_of_ble_eq_true rfl) (by omega) ((congrFun (gu_ne _ (by omega)) f).trans (hS.2.1 f hf)) dX3_addMark_38 (pc' := 39) rfl ?_
  refine g_iconst hC dX3_addMark_39 (pc' := 40) kc_iconst_1 rfl ?_
  refine g_iaddN hC dX3_addMark_40 (pc' := 41) rfl ?_
  refine g_iast hC (sh_counts ad hB ht) (Nat.le_of_ble_eq_true rfl) (by omega) dX3_addMark_41 (pc' := 42) rfl ?_
  refine g_vretV hC hRt dX3_addMark_42 ?_
  exact ⟨SS_add ht hf hc hS, fun i h1 h2 => (gu_ne i h1).trans (gu_ne i h2)⟩

set_option maxHeartbeats 4000000 in
set_option maxRecDepth 100000 in
theorem c_sStrike {l : Launch} {ad : Nat → Nat} {X : gX} {B t f q : Nat} {g : Nat → Nat} (hB : isB B) (ht : t < 5) (hS : SS X (B + 4 + 3 * t) g t) (hI : Inv g) (hf : f < 10) (hq : q ≤ 9) : K_X3_strikeUpTo l ad [.ref (B + 4 + 3 * t), .int (nI f), .int (nI q)] X (fun rr X' => rr = nI (cnB (stt g t f q) (cnt g t f)) ∧ SS X' (B + 4 + 3 * t) (stk g t f q) t ∧ ∀ i, i ≠ B + 4 + 3 * t + 2 → X' i = X i) := by
  refine Ct.of [.ref (B + 4 + 3 * t), .int (nI f), .int (nI q), .null, .null] 2 (by decide +kernel) rfl (Nat.le_of_ble_eq_true rfl) (fun F hl hC hRt _ => ?_)
  subst hl
  have bc := hI.c ht hf
  refine g_iconst hC dX3_strikeUpTo_0 (pc' := 1) kc_iconst_0 rfl ?_
  refine g_istore_3 hC dX3_strikeUpTo_1 (pc' := 2) rfl (Nat.le_of_ble_eq_true rfl) rfl ?_
  refine g_iconst hC dX3_strikeUpTo_2 (pc' := 3) kc_iconst_0 rfl ?_
  refine g_istore_4 hC dX3_strikeUpTo_3 (pc' := 5) rfl (Nat.le_of_ble_eq_true rfl) rfl ?_
  have L5 : ∀ k, k ≤ cnt g t f → ∀ X1 : gX, (SS X1 (B + 4 + 3 * t) (stz g (70 + 8 * (10 * t + f)) q k) t ∧ ∀ i, i ≠ B + 4 + 3 * t + 2 → X1 i = X i) → G F (S0 ad) (0, 0) X1 5 [.ref (B + 4 + 3 * t), .int (nI f), .int (nI q), .int (nI (cnB (stt g t f q) k)), .int (nI k)] [] := by
    refine up_ind _ (fun k hk5 ih5 => ?_)
    intro X1 hm5
    refine g_iload_4 hC dX3_strikeUpTo_5 (pc' := 7) rfl ?_
    refine g_aload_0 hC dX3_strikeUpTo_7 (pc' := 8) rfl ?_
    refine g_getR hC fl_X3_21 (sh_sheet ad hB ht) rfl dX3_strikeUpTo_8 (pc' := 11) rfl ?_
    refine g_iload_1 hC dX3_strikeUpTo_11 (pc' := 12) rfl ?_
    refine g_iald hC (sh_counts ad hB ht) (Nat.le_of_ble_eq_true rfl) (by omega) ((hm5.1.2.1 f hf).trans (congrArg nI (stz_cnt ht hf (by omega)))) dX3_strikeUpTo_12 (pc' := 13) rfl ?_
    refine g_icmpN_ge hC dX3_strikeUpTo_13 (pc' := 16) (tgt := 62) (by decide) rfl (by omega) (by omega) (fun h13 => ?_) (fun h13 => ?_)
    · refine g_iload_3 hC dX3_strikeUpTo_62 (pc' := 63) rfl ?_
      refine g_iretI hC hRt rfl dX3_strikeUpTo_63 ?_
      rw [show k = cnt g t f by omega] at hm5 ⊢
      exact ⟨rfl, hm5⟩
    · have hmk : mk (stz g (70 + 8 * (10 * t + f)) q k) t f k = mk g t f k := stz_ge (by omega)
      have hIz : Inv (stz g (70 + 8 * (10 * t + f)) q k) := Inv_stz hI (by omega)
      have bm : mk g t f k < 20000 := hI.m ht hf (by omega)
      have hst := c_sStruck (l := F.2.1) (ad := ad) (k := k) hB ht hm5.1 hIz hf (by rw [stz_cnt ht hf (by omega)]; omega)
      rw [hmk] at hst
      have hsg := c_sStrength (l := F.2.1) (ad := ad) (k := k) hB ht hm5.1 hIz hf (by rw [stz_cnt ht hf (by omega)]; omega)
      rw [hmk] at hsg
      refine g_aload_0 hC dX3_strikeUpTo_16 (pc' := 17) rfl ?_
      refine g_iload_1 hC dX3_strikeUpTo_17 (pc' := 18) rfl ?_
      refine g_iload_4 hC dX3_strikeUpTo_18 (pc' := 20) rfl ?_
      refine g_callV2R hC (hst) ml_X3_38 (sh_sheet ad hB ht) rfl ⟨(Nat.le_of_ble_eq_true rfl), (Nat.le_of_ble_eq_true rfl)⟩ (Nat.le_of_ble_eq_true rfl) dX3_strikeUpTo_20 (pc' := 23) rfl ⟨Nat.zero_le _, Nat.zero_le _⟩ ?_
      refine g_ifZ_ne hC dX3_strikeUpTo_23 (pc' := 26) (tgt := 56) (by decide) rfl (fun h23 => ?_) (fun h23 => ?_)
      · simp only [decide_eq_true_eq] at h23
        refine g_iinc_4 hC dX3_strikeUpTo_56 (pc' := 59) rfl (Nat.le_of_ble_eq_true rfl) rfl (nI_inc _ _ kc_iinc_1) ?_
        refine g_goto hC dX3_strikeUpTo_59 (tgt := 5) (by decide) ?_
        exact g_weak (ih5 (by omega) _ (by first | exact ⟨SS_str ht hf (by omega) hm5.1 h23b (by omega), fun i hi => (gu_ne i hi).trans (hm5.2 i hi)⟩ | exact ⟨hm5.1.congr ht (fun j hj => stz_step0 (by show ¬ (mk g t f k % 2 = 0 ∧ mk g t f k / 2 % 10 ≤ q); omega)), hm5.2⟩)) (gle_s (gle_s (gle_s (gle_i (by simp [cnB, stt, *]) (gle_i (by first | rfl | omega) gle_nil)))))
      · simp only [decide_eq_false_iff_not] at h23
        have h23b : mk g t f k % 2 = 0 := by omega
        refine g_aload_0 hC dX3_strikeUpTo_26 (pc' := 27) rfl ?_
        refine g_iload_1 hC dX3_strikeUpTo_27 (pc' := 28) rfl ?_
        refine g_iload_4 hC dX3_strikeUpTo_28 (pc' := 30) rfl ?_
        refine g_callV2R hC (hsg) ml_X3_42 (sh_sheet ad hB ht) rfl ⟨(Nat.le_of_ble_eq_true rfl), (Nat.le_of_ble_eq_true rfl)⟩ (Nat.le_of_ble_eq_true rfl) dX3_strikeUpTo_30 (pc' := 33) rfl ⟨Nat.zero_le _, Nat.zero_le _⟩ ?_
        refine g_iload_2 hC dX3_strikeUpTo_33 (pc' := 34) rfl ?_
        refine g_icmpN_gt hC dX3_strikeUpTo_34 (pc' := 37) (tgt := 56) (by decide) rfl (by omega) (by omega) (fun h34 => ?_) (fun h34 => ?_)
        · have h34b : ¬ mk g t f k / 2 % 10 ≤ q := by omega
          refine g_iinc_4 hC dX3_strikeUpTo_56 (pc' := 59) rfl (Nat.le_of_ble_eq_true rfl) rfl (nI_inc _ _ kc_iinc_1) ?_
          refine g_goto hC dX3_strikeUpTo_59 (tgt := 5) (by decide) ?_
          exact g_weak (ih5 (by omega) _ (by first | exact ⟨SS_str ht hf (by omega) hm5.1 h23b (by omega), fun i hi => (gu_ne i hi).trans (hm5.2 i hi)⟩ | exact ⟨hm5.1.congr ht (fun j hj => stz_step0 (by show ¬ (mk g t f k % 2 = 0 ∧ mk g t f k / 2 % 10 ≤ q); omega)), hm5.2⟩)) (gle_s (gle_s (gle_s (gle_i (by simp [cnB, stt, *]) (gle_i (by first | rfl | omega) gle_nil)))))
        · refine g_aload_0 hC dX3_strikeUpTo_37 (pc' := 38) rfl ?_
          refine g_getR hC fl_X3_25 (sh_sheet ad hB ht) rfl dX3_strikeUpTo_38 (pc' := 41) rfl ?_
          refine g_iload_1 hC dX3_strikeUpTo_41 (pc' := 42) rfl ?_
          refine g_bipush hC dX3_strikeUpTo_42 (pc' := 44) kc_bipush_8 rfl ?_
          refine g_imulN hC dX3_strikeUpTo_44 (pc' := 45) rfl ?_
          refine g_iload_4 hC dX3_strikeUpTo_45 (pc' := 47) rfl ?_
          refine g_iaddN hC dX3_strikeUpTo_47 (pc' := 48) rfl ?_
          refine g_dup2 hC dX3_strikeUpTo_48 (pc' := 49) rfl rfl rfl ?_
          refine g_iald hC (sh_marks ad hB ht) (Nat.le_of_ble_eq_true rfl) (by omega) ((hm5.1.2.2 f k hf (by omega) (by rw [stz_cnt ht hf (by omega)]; omega)).trans (congrArg (fun z => nI (em z)) hmk)) dX3_strikeUpTo_49 (pc' := 50) rfl ?_
          refine g_iconst hC dX3_strikeUpTo_50 (pc' := 51) kc_iconst_1 rfl ?_
          refine g_iorN hC dX3_strikeUpTo_51 (pc' := 52) rfl ?_
          rw [em_one h23b]
          refine g_iast hC (sh_marks ad hB ht) (Nat.le_of_ble_eq_true rfl) (by omega) dX3_strikeUpTo_52 (pc' := 53) rfl ?_
          refine g_iinc_3 hC dX3_strikeUpTo_53 (pc' := 56) rfl (Nat.le_of_ble_eq_true rfl) rfl (nI_inc _ _ kc_iinc_1) ?_
          refine g_iinc_4 hC dX3_strikeUpTo_56 (pc' := 59) rfl (Nat.le_of_ble_eq_true rfl) rfl (nI_inc _ _ kc_iinc_1) ?_
          refine g_goto hC dX3_strikeUpTo_59 (tgt := 5) (by decide) ?_
          exact g_weak (ih5 (by omega) _ (by first | exact ⟨SS_str ht hf (by omega) hm5.1 h23b (by omega), fun i hi => (gu_ne i hi).trans (hm5.2 i hi)⟩ | exact ⟨hm5.1.congr ht (fun j hj => stz_step0 (by show ¬ (mk g t f k % 2 = 0 ∧ mk g t f k / 2 % 10 ≤ q); omega)), hm5.2⟩)) (gle_s (gle_s (gle_s (gle_i (by simp [cnB, stt, *]) (gle_i (by first | rfl | omega) gle_nil)))))
  exact g_weak (L5 0 (by exact Nat.zero_le _) _ (by exact ⟨hS.congr ht (fun j _ => (by unfold stz; rw [if_neg (by omega)])), fun _ _ => rfl⟩)) (gle_s (gle_s (gle_s (gle_i (by rfl) (gle_s gle_nil)))))
