theorem app_at {l0 m : List gE} {n k : Nat} {e : gE} (hn : l0.length = n) (h : m[k]? = some e) : (l0 ++ m)[n + k]? = some e := by
  rw [List.getElem?_append_right (by omega), show n + k - l0.length = k by omega]
  exact h
theorem app_set {l0 m : List gE} {n k : Nat} {e : gE} (hn : l0.length = n) : (l0 ++ m).set (n + k) e = l0 ++ m.set k e := by
  rw [List.set_append_right _ _ (by omega), show n + k - l0.length = k by omega]
/-- the first state -/
def g0 (j : Nat) : Nat := if j = 0 then 2 else if j = 1 then 1 else if j = 2 then 0 else if j = 3 then 5 else if j < 4 then 0 else if j < 9 then 1 else if j < 14 then 60 else 0
theorem g0_c (t f : Nat) : cnt g0 t f = 0 := by
  unfold cnt g0
  repeat (first | rw [if_neg (by omega)])
theorem SS0 {X : gX} {b t : Nat} (ht : t < 5) (h0 : X b 0 = nI 1) (h1 : X b 1 = nI 60) (h2 : X b 2 = nI 0) (hc : ∀ k, X (b + 1) k = nI 0) : SS X b g0 t := by
  have e0 : g0 (4 + t) = 1 := by unfold g0; repeat (first | rw [if_pos (by omega)] | rw [if_neg (by omega)])
  have e1 : g0 (9 + t) = 60 := by unfold g0; repeat (first | rw [if_pos (by omega)] | rw [if_neg (by omega)])
  have e2 : g0 (14 + t) = 0 := by unfold g0; repeat (first | rw [if_pos (by omega)] | rw [if_neg (by omega)])
  refine ⟨⟨by rw [e0]; exact h0, by rw [e1]; exact h1, by rw [e2]; exact h2⟩, fun f _ => by rw [g0_c]; exact hc f, fun f k _ _ hk => by rw [g0_c] at hk; omega⟩
def shB (n : Nat) : List gE := [.inl (3, [none, none, none, some (some (n + 1)), some (some (n + 2))]), .inr (0, 10, []), .inr (0, 80, [])]

set_option maxHeartbeats 4000000 in
set_option maxRecDepth 100000 in
theorem c_newSheet {l : Launch} {l0 l1 l2 : List gE} {n : Nat} {ad : Nat → Nat} {X : gX}  (hn : l0.length = n) (h5 : n < 4000) (h1 : l0 ++ [.inl (3, [none, none, none, some none, some none])] = l1) (h2 : l0 ++ shB n = l2) : Ct l (SL l1 ad) yX3_init cX3_init 1 none 1 20 [.ref n] X 2 90 (pC (n + 1) ad l2 (fun X' => (∀ i, i < n → X' i = X i) ∧ ∀ t, t < 5 → SS X' n g0 t)) := by
  subst h1; subst h2
  refine Ct.of [.ref n] 0 (by decide +kernel) rfl (Nat.le_of_ble_eq_true rfl) (fun F hl hC hRt hin => ?_)
  subst hl
  have hi := hin rfl
  refine g_aload_0 hC dX3_init_0 (pc' := 1) rfl ?_
  refine g_objInit hC ol_X3 ⟨(Nat.le_of_ble_eq_true rfl), (Nat.le_of_ble_eq_true rfl)⟩ (Nat.le_of_ble_eq_true rfl) dX3_init_1 (pc' := 4) rfl ?_
  refine g_aload_0 hC dX3_init_4 (pc' := 5) rfl ?_
  refine g_iconst hC dX3_init_5 (pc' := 6) kc_iconst_1 rfl ?_
  refine g_putI hC fl_X3_9 (sl_at (app_at (k := 0) hn rfl)) rfl rfl rfl dX3_init_6 (pc' := 9) rfl ?_
  refine g_aload_0 hC dX3_init_9 (pc' := 10) rfl ?_
  refine g_bipush hC dX3_init_10 (pc' := 12) kc_bipush_60 rfl ?_
  refine g_putI hC fl_X3_15 (sl_at (app_at (k := 0) hn rfl)) rfl rfl rfl dX3_init_12 (pc' := 15) rfl ?_
  refine g_aload_0 hC dX3_init_15 (pc' := 16) rfl ?_
  refine g_iconst hC dX3_init_16 (pc' := 17) kc_iconst_0 rfl ?_
  refine g_putI hC fl_X3_18 (sl_at (app_at (k := 0) hn rfl)) rfl rfl rfl dX3_init_17 (pc' := 20) rfl ?_
  refine g_aload_0 hC dX3_init_20 (pc' := 21) rfl ?_
  refine g_bipush hC dX3_init_21 (pc' := 23) kc_bipush_10 rfl ?_
  refine g_newa_int hC (Nat.le_of_ble_eq_true rfl) (N := n + 1) (by rw [List.length_append, hn] <;> rfl) (by omega) (l' := l0 ++ [.inl (3, [none, none, none, some none, some none]), .inr (0, 10, [])]) (List.append_assoc _ _ _) ⟨Or.inl (show (n : Nat) < n + 1 by omega), ⟨Or.inl (show (n : Nat) < n + 1 by omega), trivial⟩⟩ ⟨(Nat.le_of_ble_eq_true rfl), (Nat.le_of_ble_eq_true rfl)⟩ dX3_init_23 (pc' := 25) rfl (fun ad1 hq1 => ?_)
  have ag1 : ∀ i, i < n + 1 ∨ 5000 ≤ i → ad1 i = ad i := fun i hi => hq1 i (by omega)
  refine g_putR hC (l' := l0 ++ [.inl (3, [none, none, none, some (some (n + 1)), some none]), .inr (0, 10, [])]) hi ff_X3_21 (app_at (k := 0) hn rfl) (Nat.le_of_ble_eq_true rfl) (by rw [List.length_append, hn]; simp only [List.length_cons, List.length_nil]; omega) (app_set (k := 0) hn) dX3_init_25 (pc' := 28) rfl ?_
  refine g_aload_0 hC dX3_init_28 (pc' := 29) rfl ?_
  refine g_bipush hC dX3_init_29 (pc' := 31) kc_bipush_80 rfl ?_
  refine g_newa_int hC (Nat.le_of_ble_eq_true rfl) (N := n + 2) (by rw [List.length_append, hn] <;> rfl) (by omega) (l' := l0 ++ [.inl (3, [none, none, none, some (some (n + 1)), some none]), .inr (0, 10, []), .inr (0, 80, [])]) (List.append_assoc _ _ _) ⟨Or.inl (show (n : Nat) < n + 2 by omega), ⟨Or.inl (show (n : Nat) < n + 2 by omega), trivial⟩⟩ ⟨(Nat.le_of_ble_eq_true rfl), (Nat.le_of_ble_eq_true rfl)⟩ dX3_init_31 (pc' := 33) rfl (fun ad2 hq2 => ?_)
  have ag2 : ∀ i, i < n + 1 ∨ 5000 ≤ i → ad2 i = ad i := fun i hi => (hq2 i (by omega)).trans (ag1 i hi)
  refine g_putR hC (l' := l0 ++ [.inl (3, [none, none, none, some (some (n + 1)), some (some (n + 2))]), .inr (0, 10, []), .inr (0, 80, [])]) hi ff_X3_25 (app_at (k := 0) hn rfl) (Nat.le_of_ble_eq_true rfl) (by rw [List.length_append, hn]; simp only [List.length_cons, List.length_nil]; omega) (app_set (k := 0) hn) dX3_init_33 (pc' := 36) rfl ?_
  refine g_vretC hC hRt dX3_init_36 rfl ag2 rfl ?_
  refine ⟨fun i hi => ?_, fun t ht => SS0 ht ?_ ?_ ?_ (fun k => ?_)⟩
  · rw [gz_ne i (by omega), gz_ne i (by omega), gu_ne i (by omega), gu_ne i (by omega), gu_ne i (by omega)]
  · rw [gz_ne n (by omega), gz_ne n (by omega), gu_id (by decide), gu_id (by decide), gu_at]
  · rw [gz_ne n (by omega), gz_ne n (by omega), gu_id (by decide), gu_at]
  · rw [gz_ne n (by omega), gz_ne n (by omega), gu_at]
  · rw [gz_ne (n + 1) (by omega), gz_at]

def stB (n : Nat) : List gE := [.inl (4, [some (some (n + 1)), some (some (n + 2)), none, none, some (some (n + 3))]), .inr (4, 5, [n + 4, n + 7, n + 10, n + 13, n + 16]), .inr (0, 2, []), .inr (0, 5, [])] ++ (shB (n + 4) ++ (shB (n + 7) ++ (shB (n + 10) ++ (shB (n + 13) ++ shB (n + 16)))))

set_option maxHeartbeats 4000000 in
set_option maxRecDepth 100000 in
theorem c_newState {l : Launch} {l0 l1 l2 : List gE} {n : Nat} {ad : Nat → Nat} {X : gX}  (hn : l0.length = n) (h5 : n < 3900) (h1 : l0 ++ [.inl (4, [some none, some none, none, none, some none])] = l1) (h2 : l0 ++ stB n = l2) : Ct l (SL l1 ad) yX4_init cX4_init 2 none 2 40 [.ref n] X 18 487 (pC (n + 1) ad l2 (fun X' => (∀ i, i < n → X' i = X i) ∧ RS X' n g0)) := by
  subst h1; subst h2
  refine Ct.of [.ref n, .null] 1 (by decide +kernel) rfl (Nat.le_of_ble_eq_true rfl) (fun F hl hC hRt hin => ?_)
  subst hl
  have hi := hin rfl
  refine g_aload_0 hC dX4_init_0 (pc' := 1) rfl ?_
  refine g_objInit hC ol_X4 ⟨(Nat.le_of_ble_eq_true rfl), (Nat.le_of_ble_eq_true rfl)⟩ (Nat.le_of_ble_eq_true rfl) dX4_init_1 (pc' := 4) rfl ?_
  refine g_aload_0 hC dX4_init_4 (pc' := 5) rfl ?_
  refine g_iconst hC dX4_init_5 (pc' := 6) kc_iconst_5 rfl ?_
  refine g_newq4 hC cq_X4_9 (Nat.le_of_ble_eq_true rfl) (N := n + 1) (by rw [List.length_append, hn] <;> rfl) (by omega) (l' := l0 ++ [.inl (4, [some none, some none, none, none, some none]), .inr (4, 5, [])]) (List.append_assoc _ _ _) ⟨Or.inl (show (n : Nat) < n + 1 by omega), ⟨Or.inl (show (n : Nat) < n + 1 by omega), trivial⟩⟩ ⟨(Nat.le_of_ble_eq_true rfl), (Nat.le_of_ble_eq_true rfl)⟩ dX4_init_6 (pc' := 9) rfl (fun ad1 hq1 => ?_)
  have ag1 : ∀ i, i < n + 1 ∨ 5000 ≤ i → ad1 i = ad i := fun i hi => hq1 i (by omega)
  refine g_putR hC (l' := l0 ++ [.inl (4, [some (some (n + 1)), some none, none, none, some none]), .inr (4, 5, [])]) hi ff_X4_11 (app_at (k := 0) hn rfl) (Nat.le_of_ble_eq_true rfl) (by rw [List.length_append, hn]; simp only [List.length_cons, List.length_nil]; omega) (app_set (k := 0) hn) dX4_init_9 (pc' := 12) rfl ?_
  refine g_aload_0 hC dX4_init_12 (pc' := 13) rfl ?_
  refine g_iconst hC dX4_init_13 (pc' := 14) kc_iconst_2 rfl ?_
  refine g_newa_int hC (Nat.le_of_ble_eq_true rfl) (N := n + 2) (by rw [List.length_append, hn] <;> rfl) (by omega) (l' := l0 ++ [.inl (4, [some (some (n + 1)), some none, none, none, some none]), .inr (4, 5, []), .inr (0, 2, [])]) (List.append_assoc _ _ _) ⟨Or.inl (show (n : Nat) < n + 2 by omega), ⟨Or.inl (show (n : Nat) < n + 2 by omega), trivial⟩⟩ ⟨(Nat.le_of_ble_eq_true rfl), (Nat.le_of_ble_eq_true rfl)⟩ dX4_init_14 (pc' := 16) rfl (fun ad2 hq2 => ?_)
  have ag2 : ∀ i, i < n + 1 ∨ 5000 ≤ i → ad2 i = ad i := fun i hi => (hq2 i (by omega)).trans (ag1 i hi)
  refine g_dup hC dX4_init_16 (pc' := 17) rfl rfl ?_
  refine g_iconst hC dX4_init_17 (pc' := 18) kc_iconst_0 rfl ?_
  refine g_iconst hC dX4_init_18 (pc' := 19) kc_iconst_2 rfl ?_
  refine g_iast hC (sl_at (app_at (k := 2) hn rfl)) (Nat.le_of_ble_eq_true rfl) (by omega) dX4_init_19 (pc' := 20) rfl ?_
  refine g_dup hC dX4_init_20 (pc' := 21) rfl rfl ?_
  refine g_iconst hC dX4_init_21 (pc' := 22) kc_iconst_1 rfl ?_
  refine g_iconst hC dX4_init_22 (pc' := 23) kc_iconst_1 rfl ?_
  refine g_iast hC (sl_at (app_at (k := 2) hn rfl)) (Nat.le_of_ble_eq_true rfl) (by omega) dX4_init_23 (pc' := 24) rfl ?_
  refine g_putR hC (l' := l0 ++ [.inl (4, [some (some (n + 1)), some (some (n + 2)), none, none, some none]), .inr (4, 5, []), .inr (0, 2, [])]) hi ff_X4_17 (app_at (k := 0) hn rfl) (Nat.le_of_ble_eq_true rfl) (by rw [List.length_append, hn]; simp only [List.length_cons, List.length_nil]; omega) (app_set (k := 0) hn) dX4_init_24 (pc' := 27) rfl ?_
  refine g_aload_0 hC dX4_init_27 (pc' := 28) rfl ?_
  refine g_iconst hC dX4_init_28 (pc' := 29) kc_iconst_0 rfl ?_
  refine g_putI hC fl_X4_21 (sl_at (app_at (k := 0) hn rfl)) rfl rfl rfl dX4_init_29 (pc' := 32) rfl ?_
  refine g_aload_0 hC dX4_init_32 (pc' := 33) rfl ?_
  refine g_iconst hC dX4_init_33 (pc' := 34) kc_iconst_4 rfl ?_
  refine g_putI hC fl_X4_25 (sl_at (app_at (k := 0) hn rfl)) rfl rfl rfl dX4_init_34 (pc' := 37) rfl ?_
  refine g_aload_0 hC dX4_init_37 (pc' := 38) rfl ?_
  refine g_iconst hC dX4_init_38 (pc' := 39) kc_iconst_5 rfl ?_
  refine g_newa_int hC (Nat.le_of_ble_eq_true rfl) (N := n + 3) (by rw [List.length_append, hn] <;> rfl) (by omega) (l' := l0 ++ [.inl (4, [some (some (n + 1)), some (some (n + 2)), none, none, some none]), .inr (4, 5, []), .inr (0, 2, []), .inr (0, 5, [])]) (List.append_assoc _ _ _) ⟨Or.inl (show (n : Nat) < n + 3 by omega), ⟨Or.inl (show (n : Nat) < n + 3 by omega), trivial⟩⟩ ⟨(Nat.le_of_ble_eq_true rfl), (Nat.le_of_ble_eq_true rfl)⟩ dX4_init_39 (pc' := 41) rfl (fun ad3 hq3 => ?_)
  have ag3 : ∀ i, i < n + 1 ∨ 5000 ≤ i → ad3 i = ad i := fun i hi => (hq3 i (by omega)).trans (ag2 i hi)
  refine g_putR hC (l' := l0 ++ [.inl (4, [some (some (n + 1)), some (some (n + 2)), none, none, some (some (n + 3))]), .inr (4, 5, []), .inr (0, 2, []), .inr (0, 5, [])]) hi ff_X4_28 (app_at (k := 0) hn rfl) (Nat.le_of_ble_eq_true rfl) (by rw [List.length_append, hn]; simp only [List.length_cons, List.length_nil]; omega) (app_set (k := 0) hn) dX4_init_41 (pc' := 44) rfl ?_
  refine g_iconst hC dX4_init_44 (pc' := 45) kc_iconst_0 rfl ?_
  refine g_istore_1 hC dX4_init_45 (pc' := 46) rfl (Nat.le_of_ble_eq_true rfl) rfl ?_
  refine g_iload_1 hC dX4_init_46 (pc' := 47) rfl ?_
  refine g_iconst hC dX4_init_47 (pc' := 48) kc_iconst_5 rfl ?_
  refine g_icmpN_ge hC dX4_init_48 (pc' := 51) (tgt := 70) (by decide) rfl (by omega) (by omega) (fun h48 => by omega) (fun h48 => ?_)
  refine g_aload_0 hC dX4_init_51 (pc' := 52) rfl ?_
  refine g_getR hC fl_X4_11 (sl_at (app_at (k := 0) hn rfl)) rfl dX4_init_52 (pc' := 55) rfl ?_
  refine g_iload_1 hC dX4_init_55 (pc' := 56) rfl ?_
  obtain ⟨Xb, hXb⟩ : ∃ Y : gX, Y = gz (gu (gu (gu (gu (gz (gz X (n + 1)) (n + 2)) (n + 2) 0 ((nI 2))) (n + 2) 1 ((nI 1))) n 2 ((nI 0))) n 3 ((nI 4))) (n + 3) := ⟨_, rfl⟩
  rw [← hXb]
  refine g_new hC fn_X4_9 (N := n + 4) (by rw [List.length_append, hn] <;> rfl) (by omega) (l' := l0 ++ [.inl (4, [some (some (n + 1)), some (some (n + 2)), none, none, some (some (n + 3))]), .inr (4, 5, []), .inr (0, 2, []), .inr (0, 5, []), .inl (3, [none, none, none, some none, some none])]) (List.append_assoc _ _ _) ⟨Or.inl (show (n : Nat) < n + 4 by omega), ⟨Or.inl (show (n + 1 : Nat) < n + 4 by omega), trivial⟩⟩ ⟨(Nat.le_of_ble_eq_true rfl), (Nat.le_of_ble_eq_true rfl)⟩ dX4_init_56 (pc' := 59) rfl (fun ad4 hq4 => ?_)
  have ag4 : ∀ i, i < n + 1 ∨ 5000 ≤ i → ad4 i = ad i := fun i hi => (hq4 i (by omega)).trans (ag3 i hi)
  refine g_dup hC dX4_init_59 (pc' := 60) rfl rfl ?_
  refine g_callCN hC (l' := l0 ++ [.inl (4, [some (some (n + 1)), some (some (n + 2)), none, none, some (some (n + 3))]), .inr (4, 5, []), .inr (0, 2, []), .inr (0, 5, []), .inl (3, [none, none, none, some (some (n + 5)), some (some (n + 6))]), .inr (0, 10, []), .inr (0, 80, [])]) (c_newSheet (l0 := l0 ++ [.inl (4, [some (some (n + 1)), some (some (n + 2)), none, none, some (some (n + 3))]), .inr (4, 5, []), .inr (0, 2, []), .inr (0, 5, [])]) (n := n + 4) (by rw [List.length_append, hn] <;> rfl) (by omega) (List.append_assoc _ _ _) (List.append_assoc _ _ _)) mc_X4_31 ⟨(Nat.le_of_ble_eq_true rfl), (Nat.le_of_ble_eq_true rfl)⟩ (Nat.le_of_ble_eq_true rfl) dX4_init_60 (pc' := 63) rfl ⟨(Nat.le_of_ble_eq_true rfl), (Nat.le_of_ble_eq_true rfl)⟩ ⟨Or.inl (show (n : Nat) < n + 5 by omega), ⟨Or.inl (show (n + 4 : Nat) < n + 5 by omega), ⟨Or.inl (show (n + 1 : Nat) < n + 5 by omega), trivial⟩⟩⟩ (fun ad5 X5 hq5 hx5 => ?_)
  have ag5 : ∀ i, i < n + 1 ∨ 5000 ≤ i → ad5 i = ad i := fun i hi => (hq5 i (by omega)).trans (ag4 i hi)
  have hs0 := hx5.2
  have he0 : ∀ i, i < n + 4 → X5 i = Xb i := fun i hi => (hx5.1 i hi).trans (gz_ne i (by omega))
  refine g_astR4 hC (l' := l0 ++ [.inl (4, [some (some (n + 1)), some (some (n + 2)), none, none, some (some (n + 3))]), .inr (4, 5, [n + 4]), .inr (0, 2, []), .inr (0, 5, []), .inl (3, [none, none, none, some (some (n + 5)), some (some (n + 6))]), .inr (0, 10, []), .inr (0, 80, [])]) (app_at (k := 1) hn rfl) rfl (by omega) (Nat.le_of_ble_eq_true rfl) (app_at (k := 4) hn rfl) (app_set (k := 1) hn) dX4_init_63 (pc' := 64) rfl ?_
  refine g_iinc_1 hC dX4_init_64 (pc' := 67) rfl (Nat.le_of_ble_eq_true rfl) rfl (nI_inc _ _ kc_iinc_1) ?_
  refine g_goto hC dX4_init_67 (tgt := 46) (by decide) ?_
  refine g_iload_1 hC dX4_init_46 (pc' := 47) rfl ?_
  refine g_iconst hC dX4_init_47 (pc' := 48) kc_iconst_5 rfl ?_
  refine g_icmpN_ge hC dX4_init_48 (pc' := 51) (tgt := 70) (by decide) rfl (by omega) (by omega) (fun h48 => by omega) (fun h48 => ?_)
  refine g_aload_0 hC dX4_init_51 (pc' := 52) rfl ?_
  refine g_getR hC fl_X4_11 (sl_at (app_at (k := 0) hn rfl)) rfl dX4_init_52 (pc' := 55) rfl ?_
  refine g_iload_1 hC dX4_init_55 (pc' := 56) rfl ?_
  refine g_new hC fn_X4_9 (N := n + 7) (by rw [List.length_append, hn] <;> rfl) (by omega) (l' := l0 ++ [.inl (4, [some (some (n + 1)), some (some (n + 2)), none, none, some (some (n + 3))]), .inr (4, 5, [n + 4]), .inr (0, 2, []), .inr (0, 5, []), .inl (3, [none, none, none, some (some (n + 5)), some (some (n + 6))]), .inr (0, 10, []), .inr (0, 80, []), .inl (3, [none, none, none, some none, some none])]) (List.append_assoc _ _ _) ⟨Or.inl (show (n : Nat) < n + 7 by omega), ⟨Or.inl (show (n + 1 : Nat) < n + 7 by omega), trivial⟩⟩ ⟨(Nat.le_of_ble_eq_true rfl), (Nat.le_of_ble_eq_true rfl)⟩ dX4_init_56 (pc' := 59) rfl (fun ad6 hq6 => ?_)
  have ag6 : ∀ i, i < n + 1 ∨ 5000 ≤ i → ad6 i = ad i := fun i hi => (hq6 i (by omega)).trans (ag5 i hi)
  refine g_dup hC dX4_init_59 (pc' := 60) rfl rfl ?_
  refine g_callCN hC (l' := l0 ++ [.inl (4, [some (some (n + 1)), some (some (n + 2)), none, none, some (some (n + 3))]), .inr (4, 5, [n + 4]), .inr (0, 2, []), .inr (0, 5, []), .inl (3, [none, none, none, some (some (n + 5)), some (some (n + 6))]), .inr (0, 10, []), .inr (0, 80, []), .inl (3, [none, none, none, some (some (n + 8)), some (some (n + 9))]), .inr (0, 10, []), .inr (0, 80, [])]) (c_newSheet (l0 := l0 ++ [.inl (4, [some (some (n + 1)), some (some (n + 2)), none, none, some (some (n + 3))]), .inr (4, 5, [n + 4]), .inr (0, 2, []), .inr (0, 5, []), .inl (3, [none, none, none, some (some (n + 5)), some (some (n + 6))]), .inr (0, 10, []), .inr (0, 80, [])]) (n := n + 7) (by rw [List.length_append, hn] <;> rfl) (by omega) (List.append_assoc _ _ _) (List.append_assoc _ _ _)) mc_X4_31 ⟨(Nat.le_of_ble_eq_true rfl), (Nat.le_of_ble_eq_true rfl)⟩ (Nat.le_of_ble_eq_true rfl) dX4_init_60 (pc' := 63) rfl ⟨(Nat.le_of_ble_eq_true rfl), (Nat.le_of_ble_eq_true rfl)⟩ ⟨Or.inl (show (n : Nat) < n + 8 by omega), ⟨Or.inl (show (n + 7 : Nat) < n + 8 by omega), ⟨Or.inl (show (n + 1 : Nat) < n + 8 by omega), trivial⟩⟩⟩ (fun ad7 X7 hq7 hx7 => ?_)
  have ag7 : ∀ i, i < n + 1 ∨ 5000 ≤ i → ad7 i = ad i := fun i hi => (hq7 i (by omega)).trans (ag6 i hi)
  have hs1 := hx7.2
  have he1 : ∀ i, i < n + 7 → X7 i = X5 i := fun i hi => (hx7.1 i hi).trans (gz_ne i (by omega))
  refine g_astR4 hC (l' := l0 ++ [.inl (4, [some (some (n + 1)), some (some (n + 2)), none, none, some (some (n + 3))]), .inr (4, 5, [n + 4, n + 7]), .inr (0, 2, []), .inr (0, 5, []), .inl (3, [none, none, none, some (some (n + 5)), some (some (n + 6))]), .inr (0, 10, []), .inr (0, 80, []), .inl (3, [none, none, none, some (some (n + 8)), some (some (n + 9))]), .inr (0, 10, []), .inr (0, 80, [])]) (app_at (k := 1) hn rfl) rfl (by omega) (Nat.le_of_ble_eq_true rfl) (app_at (k := 7) hn rfl) (app_set (k := 1) hn) dX4_init_63 (pc' := 64) rfl ?_
  refine g_iinc_1 hC dX4_init_64 (pc' := 67) rfl (Nat.le_of_ble_eq_true rfl) rfl (nI_inc _ _ kc_iinc_1) ?_
  refine g_goto hC dX4_init_67 (tgt := 46) (by decide) ?_
  refine g_iload_1 hC dX4_init_46 (pc' := 47) rfl ?_
  refine g_iconst hC dX4_init_47 (pc' := 48) kc_iconst_5 rfl ?_
  refine g_icmpN_ge hC dX4_init_48 (pc' := 51) (tgt := 70) (by decide) rfl (by omega) (by omega) (fun h48 => by omega) (fun h48 => ?_)
  refine g_aload_0 hC dX4_init_51 (pc' := 52) rfl ?_
  refine g_getR hC fl_X4_11 (sl_at (app_at (k := 0) hn rfl)) rfl dX4_init_52 (pc' := 55) rfl ?_
  refine g_iload_1 hC dX4_init_55 (pc' := 56) rfl ?_
  refine g_new hC fn_X4_9 (N := n + 10) (by rw [List.length_append, hn] <;> rfl) (by omega) (l' := l0 ++ [.inl (4, [some (some (n + 1)), some (some (n + 2)), none, none, some (some (n + 3))]), .inr (4, 5, [n + 4, n + 7]), .inr (0, 2, []), .inr (0, 5, []), .inl (3, [none, none, none, some (some (n + 5)), some (some (n + 6))]), .inr (0, 10, []), .inr (0, 80, []), .inl (3, [none, none, none, some (some (n + 8)), some (some (n + 9))]), .inr (0, 10, []), .inr (0, 80, []), .inl (3, [none, none, none, some none, some none])]) (List.append_assoc _ _ _) ⟨Or.inl (show (n : Nat) < n + 10 by omega), ⟨Or.inl (show (n + 1 : Nat) < n + 10 by omega), trivial⟩⟩ ⟨(Nat.le_of_ble_eq_true rfl), (Nat.le_of_ble_eq_true rfl)⟩ dX4_init_56 (pc' := 59) rfl (fun ad8 hq8 => ?_)
  have ag8 : ∀ i, i < n + 1 ∨ 5000 ≤ i → ad8 i = ad i := fun i hi => (hq8 i (by omega)).trans (ag7 i hi)
  refine g_dup hC dX4_init_59 (pc' := 60) rfl rfl ?_
  refine g_callCN hC (l' := l0 ++ [.inl (4, [some (some (n + 1)), some (some (n + 2)), none, none, some (some (n + 3))]), .inr (4, 5, [n + 4, n + 7]), .inr (0, 2, []), .inr (0, 5, []), .inl (3, [none, none, none, some (some (n + 5)), some (some (n + 6))]), .inr (0, 10, []), .inr (0, 80, []), .inl (3, [none, none, none, some (some (n + 8)), some (some (n + 9))]), .inr (0, 10, []), .inr (0, 80, []), .inl (3, [none, none, none, some (some (n + 11)), some (some (n + 12))]), .inr (0, 10, []), .inr (0, 80, [])]) (c_newSheet (l0 := l0 ++ [.inl (4, [some (some (n + 1)), some (some (n + 2)), none, none, some (some (n + 3))]), .inr (4, 5, [n + 4, n + 7]), .inr (0, 2, []), .inr (0, 5, []), .inl (3, [none, none, none, some (some (n + 5)), some (some (n + 6))]), .inr (0, 10, []), .inr (0, 80, []), .inl (3, [none, none, none, some (some (n + 8)), some (some (n + 9))]), .inr (0, 10, []), .inr (0, 80, [])]) (n := n + 10) (by rw [List.length_append, hn] <;> rfl) (by omega) (List.append_assoc _ _ _) (List.append_assoc _ _ _)) mc_X4_31 ⟨(Nat.le_of_ble_eq_true rfl), (Nat.le_of_ble_eq_true rfl)⟩ (Nat.le_of_ble_eq_true rfl) dX4_init_60 (pc' := 63) rfl ⟨(Nat.le_of_ble_eq_true rfl), (Nat.le_of_ble_eq_true rfl)⟩ ⟨Or.inl (show (n : Nat) < n + 11 by omega), ⟨Or.inl (show (n + 10 : Nat) < n + 11 by omega), ⟨Or.inl (show (n + 1 : Nat) < n + 11 by omega), trivial⟩⟩⟩ (fun ad9 X9 hq9 hx9 => ?_)
  have ag9 : ∀ i, i < n + 1 ∨ 5000 ≤ i → ad9 i = ad i := fun i hi => (hq9 i (by omega)).trans (ag8 i hi)
  have hs2 := hx9.2
  have he2 : ∀ i, i < n + 10 → X9 i = X7 i := fun i hi => (hx9.1 i hi).trans (gz_ne i (by omega))
  refine g_astR4 hC (l' := l0 ++ [.inl (4, [some (some (n + 1)), some (some (n + 2)), none, none, some (some (n + 3))]), .inr (4, 5, [n + 4, n + 7, n + 10]), .inr (0, 2, []), .inr (0, 5, []), .inl (3, [none, none, none, some (some (n + 5)), some (some (n + 6))]), .inr (0, 10, []), .inr (0, 80, []), .inl (3, [none, none, none, some (some (n + 8)), some (some (n + 9))]), .inr (0, 10, []), .inr (0, 80, []), .inl (3, [none, none, none, some (some (n + 11)), some (some (n + 12))]), .inr (0, 10, []), .inr (0, 80, [])]) (app_at (k := 1) hn rfl) rfl (by omega) (Nat.le_of_ble_eq_true rfl) (app_at (k := 10) hn rfl) (app_set (k := 1) hn) dX4_init_63 (pc' := 64) rfl ?_
  refine g_iinc_1 hC dX4_init_64 (pc' := 67) rfl (Nat.le_of_ble_eq_true rfl) rfl (nI_inc _ _ kc_iinc_1) ?_
  refine g_goto hC dX4_init_67 (tgt := 46) (by decide) ?_
  refine g_iload_1 hC dX4_init_46 (pc' := 47) rfl ?_
  refine g_iconst hC dX4_init_47 (pc' := 48) kc_iconst_5 rfl ?_
  refine g_icmpN_ge hC dX4_init_48 (pc' := 51) (tgt := 70) (by decide) rfl (by omega) (by omega) (fun h48 => by omega) (fun h48 => ?_)
  refine g_aload_0 hC dX4_init_51 (pc' := 52) rfl ?_
  refine g_getR hC fl_X4_11 (sl_at (app_at (k := 0) hn rfl)) rfl dX4_init_52 (pc' := 55) rfl ?_
  refine g_iload_1 hC dX4_init_55 (pc' := 56) rfl ?_
  refine g_new hC fn_X4_9 (N := n + 13) (by rw [List.length_append, hn] <;> rfl) (by omega) (l' := l0 ++ [.inl (4, [some (some (n + 1)), some (some (n + 2)), none, none, some (some (n + 3))]), .inr (4, 5, [n + 4, n + 7, n + 10]), .inr (0, 2, []), .inr (0, 5, []), .inl (3, [none, none, none, some (some (n + 5)), some (some (n + 6))]), .inr (0, 10, []), .inr (0, 80, []), .inl (3, [none, none, none, some (some (n + 8)), some (some (n + 9))]), .inr (0, 10, []), .inr (0, 80, []), .inl (3, [none, none, none, some (some (n + 11)), some (some (n + 12))]), .inr (0, 10, []), .inr (0, 80, []), .inl (3, [none, none, none, some none, some none])]) (List.append_assoc _ _ _) ⟨Or.inl (show (n : Nat) < n + 13 by omega), ⟨Or.inl (show (n + 1 : Nat) < n + 13 by omega), trivial⟩⟩ ⟨(Nat.le_of_ble_eq_true rfl), (Nat.le_of_ble_eq_true rfl)⟩ dX4_init_56 (pc' := 59) rfl (fun ad10 hq10 => ?_)
  have ag10 : ∀ i, i < n + 1 ∨ 5000 ≤ i → ad10 i = ad i := fun i hi => (hq10 i (by omega)).trans (ag9 i hi)
  refine g_dup hC dX4_init_59 (pc' := 60) rfl rfl ?_
  refine g_callCN hC (l' := l0 ++ [.inl (4, [some (some (n + 1)), some (some (n + 2)), none, none, some (some (n + 3))]), .inr (4, 5, [n + 4, n + 7, n + 10]), .inr (0, 2, []), .inr (0, 5, []), .inl (3, [none, none, none, some (some (n + 5)), some (some (n + 6))]), .inr (0, 10, []), .inr (0, 80, []), .inl (3, [none, none, none, some (some (n + 8)), some (some (n + 9))]), .inr (0, 10, []), .inr (0, 80, []), .inl (3, [none, none, none, some (some (n + 11)), some (some (n + 12))]), .inr (0, 10, []), .inr (0, 80, []), .inl (3, [none, none, none, some (some (n + 14)), some (some (n + 15))]), .inr (0, 10, []), .inr (0, 80, [])]) (c_newSheet (l0 := l0 ++ [.inl (4, [some (some (n + 1)), some (some (n + 2)), none, none, some (some (n + 3))]), .inr (4, 5, [n + 4, n + 7, n + 10]), .inr (0, 2, []), .inr (0, 5, []), .inl (3, [none, none, none, some (some (n + 5)), some (some (n + 6))]), .inr (0, 10, []), .inr (0, 80, []), .inl (3, [none, none, none, some (some (n + 8)), some (some (n + 9))]), .inr (0, 10, []), .inr (0, 80, []), .inl (3, [none, none, none, some (some (n + 11)), some (some (n + 12))]), .inr (0, 10, []), .inr (0, 80, [])]) (n := n + 13) (by rw [List.length_append, hn] <;> rfl) (by omega) (List.append_assoc _ _ _) (List.append_assoc _ _ _)) mc_X4_31 ⟨(Nat.le_of_ble_eq_true rfl), (Nat.le_of_ble_eq_true rfl)⟩ (Nat.le_of_ble_eq_true rfl) dX4_init_60 (pc' := 63) rfl ⟨(Nat.le_of_ble_eq_true rfl), (Nat.le_of_ble_eq_true rfl)⟩ ⟨Or.inl (show (n : Nat) < n + 14 by omega), ⟨Or.inl (show (n + 13 : Nat) < n + 14 by omega), ⟨Or.inl (show (n + 1 : Nat) < n + 14 by omega), trivial⟩⟩⟩ (fun ad11 X11 hq11 hx11 => ?_)
  have ag11 : ∀ i, i < n + 1 ∨ 5000 ≤ i → ad11 i = ad i := fun i hi => (hq11 i (by omega)).trans (ag10 i hi)
  have hs3 := hx11.2
  have he3 : ∀ i, i < n + 13 → X11 i = X9 i := fun i hi => (hx11.1 i hi).trans (gz_ne i (by omega))
  refine g_astR4 hC (l' := l0 ++ [.inl (4, [some (some (n + 1)), some (some (n + 2)), none, none, some (some (n + 3))]), .inr (4, 5, [n + 4, n + 7, n + 10, n + 13]), .inr (0, 2, []), .inr (0, 5, []), .inl (3, [none, none, none, some (some (n + 5)), some (some (n + 6))]), .inr (0, 10, []), .inr (0, 80, []), .inl (3, [none, none, none, some (some (n + 8)), some (some (n + 9))]), .inr (0, 10, []), .inr (0, 80, []), .inl (3, [none, none, none, some (some (n + 11)), some (some (n + 12))]), .inr (0, 10, []), .inr (0, 80, []), .inl (3, [none, none, none, some (some (n + 14)), some (some (n + 15))]), .inr (0, 10, []), .inr (0, 80, [])]) (app_at (k := 1) hn rfl) rfl (by omega) (Nat.le_of_ble_eq_true rfl) (app_at (k := 13) hn rfl) (app_set (k := 1) hn) dX4_init_63 (pc' := 64) rfl ?_
  refine g_iinc_1 hC dX4_init_64 (pc' := 67) rfl (Nat.le_of_ble_eq_true rfl) rfl (nI_inc _ _ kc_iinc_1) ?_
  refine g_goto hC dX4_init_67 (tgt := 46) (by decide) ?_
  refine g_iload_1 hC dX4_init_46 (pc' := 47) rfl ?_
  refine g_iconst hC dX4_init_47 (pc' := 48) kc_iconst_5 rfl ?_
  refine g_icmpN_ge hC dX4_init_48 (pc' := 51) (tgt := 70) (by decide) rfl (by omega) (by omega) (fun h48 => by omega) (fun h48 => ?_)
  refine g_aload_0 hC dX4_init_51 (pc' := 52) rfl ?_
  refine g_getR hC fl_X4_11 (sl_at (app_at (k := 0) hn rfl)) rfl dX4_init_52 (pc' := 55) rfl ?_
  refine g_iload_1 hC dX4_init_55 (pc' := 56) rfl ?_
  refine g_new hC fn_X4_9 (N := n + 16) (by rw [List.length_append, hn] <;> rfl) (by omega) (l' := l0 ++ [.inl (4, [some (some (n + 1)), some (some (n + 2)), none, none, some (some (n + 3))]), .inr (4, 5, [n + 4, n + 7, n + 10, n + 13]), .inr (0, 2, []), .inr (0, 5, []), .inl (3, [none, none, none, some (some (n + 5)), some (some (n + 6))]), .inr (0, 10, []), .inr (0, 80, []), .inl (3, [none, none, none, some (some (n + 8)), some (some (n + 9))]), .inr (0, 10, []), .inr (0, 80, []), .inl (3, [none, none, none, some (some (n + 11)), some (some (n + 12))]), .inr (0, 10, []), .inr (0, 80, []), .inl (3, [none, none, none, some (some (n + 14)), some (some (n + 15))]), .inr (0, 10, []), .inr (0, 80, []), .inl (3, [none, none, none, some none, some none])]) (List.append_assoc _ _ _) ⟨Or.inl (show (n : Nat) < n + 16 by omega), ⟨Or.inl (show (n + 1 : Nat) < n + 16 by omega), trivial⟩⟩ ⟨(Nat.le_of_ble_eq_true rfl), (Nat.le_of_ble_eq_true rfl)⟩ dX4_init_56 (pc' := 59) rfl (fun ad12 hq12 => ?_)
  have ag12 : ∀ i, i < n + 1 ∨ 5000 ≤ i → ad12 i = ad i := fun i hi => (hq12 i (by omega)).trans (ag11 i hi)
  refine g_dup hC dX4_init_59 (pc' := 60) rfl rfl ?_
  refine g_callCN hC (l' := l0 ++ [.inl (4, [some (some (n + 1)), some (some (n + 2)), none, none, some (some (n + 3))]), .inr (4, 5, [n + 4, n + 7, n + 10, n + 13]), .inr (0, 2, []), .inr (0, 5, []), .inl (3, [none, none, none, some (some (n + 5)), some (some (n + 6))]), .inr (0, 10, []), .inr (0, 80, []), .inl (3, [none, none, none, some (some (n + 8)), some (some (n + 9))]), .inr (0, 10, []), .inr (0, 80, []), .inl (3, [none, none, none, some (some (n + 11)), some (some (n + 12))]), .inr (0, 10, []), .inr (0, 80, []), .inl (3, [none, none, none, some (some (n + 14)), some (some (n + 15))]), .inr (0, 10, []), .inr (0, 80, []), .inl (3, [none, none, none, some (some (n + 17)), some (some (n + 18))]), .inr (0, 10, []), .inr (0, 80, [])]) (c_newSheet (l0 := l0 ++ [.inl (4, [some (some (n + 1)), some (some (n + 2)), none, none, some (some (n + 3))]), .inr (4, 5, [n + 4, n + 7, n + 10, n + 13]), .inr (0, 2, []), .inr (0, 5, []), .inl (3, [none, none, none, some (some (n + 5)), some (some (n + 6))]), .inr (0, 10, []), .inr (0, 80, []), .inl (3, [none, none, none, some (some (n + 8)), some (some (n + 9))]), .inr (0, 10, []), .inr (0, 80, []), .inl (3, [none, none, none, some (some (n + 11)), some (some (n + 12))]), .inr (0, 10, []), .inr (0, 80, []), .inl (3, [none, none, none, some (some (n + 14)), some (some (n + 15))]), .inr (0, 10, []), .inr (0, 80, [])]) (n := n + 16) (by rw [List.length_append, hn] <;> rfl) (by omega) (List.append_assoc _ _ _) (List.append_assoc _ _ _)) mc_X4_31 ⟨(Nat.le_of_ble_eq_true rfl), (Nat.le_of_ble_eq_true rfl)⟩ (Nat.le_of_ble_eq_true rfl) dX4_init_60 (pc' := 63) rfl ⟨(Nat.le_of_ble_eq_true rfl), (Nat.le_of_ble_eq_true rfl)⟩ ⟨Or.inl (show (n : Nat) < n + 17 by omega), ⟨Or.inl (show (n + 16 : Nat) < n + 17 by omega), ⟨Or.inl (show (n + 1 : Nat) < n + 17 by omega), trivial⟩⟩⟩ (fun ad13 X13 hq13 hx13 => ?_)
  have ag13 : ∀ i, i < n + 1 ∨ 5000 ≤ i → ad13 i = ad i := fun i hi => (hq13 i (by omega)).trans (ag12 i hi)
  have hs4 := hx13.2
  have he4 : ∀ i, i < n + 16 → X13 i = X11 i := fun i hi => (hx13.1 i hi).trans (gz_ne i (by omega))
  refine g_astR4 hC (l' := l0 ++ [.inl (4, [some (some (n + 1)), some (some (n + 2)), none, none, some (some (n + 3))]), .inr (4, 5, [n + 4, n + 7, n + 10, n + 13, n + 16]), .inr (0, 2, []), .inr (0, 5, []), .inl (3, [none, none, none, some (some (n + 5)), some (some (n + 6))]), .inr (0, 10, []), .inr (0, 80, []), .inl (3, [none, none, none, some (some (n + 8)), some (some (n + 9))]), .inr (0, 10, []), .inr (0, 80, []), .inl (3, [none, none, none, some (some (n + 11)), some (some (n + 12))]), .inr (0, 10, []), .inr (0, 80, []), .inl (3, [none, none, none, some (some (n + 14)), some (some (n + 15))]), .inr (0, 10, []), .inr (0, 80, []), .inl (3, [none, none, none, some (some (n + 17)), some (some (n + 18))]), .inr (0, 10, []), .inr (0, 80, [])]) (app_at (k := 1) hn rfl) rfl (by omega) (Nat.le_of_ble_eq_true rfl) (app_at (k := 16) hn rfl) (app_set (k := 1) hn) dX4_init_63 (pc' := 64) rfl ?_
  refine g_iinc_1 hC dX4_init_64 (pc' := 67) rfl (Nat.le_of_ble_eq_true rfl) rfl (nI_inc _ _ kc_iinc_1) ?_
  refine g_goto hC dX4_init_67 (tgt := 46) (by decide) ?_
  refine g_iload_1 hC dX4_init_46 (pc' := 47) rfl ?_
  refine g_iconst hC dX4_init_47 (pc' := 48) kc_iconst_5 rfl ?_
  refine g_icmpN_ge hC dX4_init_48 (pc' := 51) (tgt := 70) (by decide) rfl (by omega) (by omega) (fun h48 => ?_) (fun h48 => by omega)
  refine g_vretC hC hRt dX4_init_70 rfl ag13 rfl ?_
  have hb : ∀ i, i < n + 4 → X13 i = Xb i := fun i hi => (he4 i (by omega)).trans ((he3 i (by omega)).trans ((he2 i (by omega)).trans ((he1 i (by omega)).trans (he0 i (by omega)))))
  refine ⟨fun i hi => ?_, ⟨?_, ?_⟩, ?_, fun t ht => ?_⟩
  · rw [hb i (by omega), hXb]; repeat (first | rw [gu_ne i (by omega)] | rw [gz_ne i (by omega)])
  · rw [hb _ (by omega), hXb]; rw [gz_ne _ (by omega), gu_ne _ (by omega), gu_ne _ (by omega), gu_id (by decide), gu_at]; rfl
  · rw [hb _ (by omega), hXb]; rw [gz_ne _ (by omega), gu_ne _ (by omega), gu_ne _ (by omega), gu_at]; rfl
  · rw [hb _ (by omega), hXb]; rw [gz_ne _ (by omega)]; exact ⟨(gu_id (by decide)).trans gu_at, gu_at⟩
  · match t, ht with
    | 0, _ => exact (show SS X13 (n + 4) g0 0 from (((((hs0 0 (by decide)).of (he1 _ (by omega)) (he1 _ (by omega)) (he1 _ (by omega))).of (he2 _ (by omega)) (he2 _ (by omega)) (he2 _ (by omega))).of (he3 _ (by omega)) (he3 _ (by omega)) (he3 _ (by omega))).of (he4 _ (by omega)) (he4 _ (by omega)) (he4 _ (by omega))))
    | 1, _ => exact (show SS X13 (n + 7) g0 1 from ((((hs1 1 (by decide)).of (he2 _ (by omega)) (he2 _ (by omega)) (he2 _ (by omega))).of (he3 _ (by omega)) (he3 _ (by omega)) (he3 _ (by omega))).of (he4 _ (by omega)) (he4 _ (by omega)) (he4 _ (by omega))))
    | 2, _ => exact (show SS X13 (n + 10) g0 2 from (((hs2 2 (by decide)).of (he3 _ (by omega)) (he3 _ (by omega)) (he3 _ (by omega))).of (he4 _ (by omega)) (he4 _ (by omega)) (he4 _ (by omega))))
    | 3, _ => exact (show SS X13 (n + 13) g0 3 from ((hs3 3 (by decide)).of (he4 _ (by omega)) (he4 _ (by omega)) (he4 _ (by omega))))
    | 4, _ => exact (show SS X13 (n + 16) g0 4 from (hs4 4 (by decide)))

def tlB (n : Nat) : List gE := [.inl (5, [none, none, none, none, none, none, some (some (n + 1)), some (some (n + 2))]), .inr (0, 5, []), .inr (0, 5, [])]
def pdB (n : Nat) : List gE := [.inl (2, [none, some (some (n + 1))]), .inr (1, 80, [])]
def rdB (n : Nat) : List gE := [.inl (1, [none, none, none, none, none])]

set_option maxHeartbeats 4000000 in
set_option maxRecDepth 100000 in
theorem c_newTally {l : Launch} {l0 l1 l2 : List gE} {n : Nat} {ad : Nat → Nat} {X : gX}  (hn : l0.length = n) (h5 : n < 4000) (h1 : l0 ++ [.inl (5, [none, none, none, none, none, none, some none, some none])] = l1) (h2 : l0 ++ tlB n = l2) : Ct l (SL l1 ad) yX5_init cX5_init 1 none 1 20 [.ref n] X 2 10 (pC (n + 1) ad l2 (fun X' => (∀ i, i < n → X' i = X i) ∧ True)) := by
  subst h1; subst h2
  refine Ct.of [.ref n] 0 (by decide +kernel) rfl (Nat.le_of_ble_eq_true rfl) (fun F hl hC hRt hin => ?_)
  subst hl
  have hi := hin rfl
  refine g_aload_0 hC dX5_init_0 (pc' := 1) rfl ?_
  refine g_objInit hC ol_X5 ⟨(Nat.le_of_ble_eq_true rfl), (Nat.le_of_ble_eq_true rfl)⟩ (Nat.le_of_ble_eq_true rfl) dX5_init_1 (pc' := 4) rfl ?_
  refine g_aload_0 hC dX5_init_4 (pc' := 5) rfl ?_
  refine g_iconst hC dX5_init_5 (pc' := 6) kc_iconst_5 rfl ?_
  refine g_newa_int hC (Nat.le_of_ble_eq_true rfl) (N := n + 1) (by rw [List.length_append, hn] <;> rfl) (by omega) (l' := l0 ++ [.inl (5, [none, none, none, none, none, none, some none, some none]), .inr (0, 5, [])]) (List.append_assoc _ _ _) ⟨Or.inl (show (n : Nat) < n + 1 by omega), ⟨Or.inl (show (n : Nat) < n + 1 by omega), trivial⟩⟩ ⟨(Nat.le_of_ble_eq_true rfl), (Nat.le_of_ble_eq_true rfl)⟩ dX5_init_6 (pc' := 8) rfl (fun ad1 hq1 => ?_)
  have ag1 : ∀ i, i < n + 1 ∨ 5000 ≤ i → ad1 i = ad i := fun i hi => hq1 i (by omega)
  refine g_putR hC (l' := l0 ++ [.inl (5, [none, none, none, none, none, none, some (some (n + 1)), some none]), .inr (0, 5, [])]) hi ff_X5_9 (app_at (k := 0) hn rfl) (Nat.le_of_ble_eq_true rfl) (by rw [List.length_append, hn]; simp only [List.length_cons, List.length_nil]; omega) (app_set (k := 0) hn) dX5_init_8 (pc' := 11) rfl ?_
  refine g_aload_0 hC dX5_init_11 (pc' := 12) rfl ?_
  refine g_iconst hC dX5_init_12 (pc' := 13) kc_iconst_5 rfl ?_
  refine g_newa_int hC (Nat.le_of_ble_eq_true rfl) (N := n + 2) (by rw [List.length_append, hn] <;> rfl) (by omega) (l' := l0 ++ [.inl (5, [none, none, none, none, none, none, some (some (n + 1)), some none]), .inr (0, 5, []), .inr (0, 5, [])]) (List.append_assoc _ _ _) ⟨Or.inl (show (n : Nat) < n + 2 by omega), ⟨Or.inl (show (n : Nat) < n + 2 by omega), trivial⟩⟩ ⟨(Nat.le_of_ble_eq_true rfl), (Nat.le_of_ble_eq_true rfl)⟩ dX5_init_13 (pc' := 15) rfl (fun ad2 hq2 => ?_)
  have ag2 : ∀ i, i < n + 1 ∨ 5000 ≤ i → ad2 i = ad i := fun i hi => (hq2 i (by omega)).trans (ag1 i hi)
  refine g_putR hC (l' := l0 ++ [.inl (5, [none, none, none, none, none, none, some (some (n + 1)), some (some (n + 2))]), .inr (0, 5, []), .inr (0, 5, [])]) hi ff_X5_15 (app_at (k := 0) hn rfl) (Nat.le_of_ble_eq_true rfl) (by rw [List.length_append, hn]; simp only [List.length_cons, List.length_nil]; omega) (app_set (k := 0) hn) dX5_init_15 (pc' := 18) rfl ?_
  refine g_vretC hC hRt dX5_init_18 rfl ag2 rfl ?_
  exact ⟨fun i hi => (gz_ne i (by omega)).trans (gz_ne i (by omega)), trivial⟩

set_option maxHeartbeats 4000000 in
set_option maxRecDepth 100000 in
theorem c_newPad {l : Launch} {l0 l1 l2 : List gE} {n : Nat} {ad : Nat → Nat} {X : gX}  (hn : l0.length = n) (h5 : n < 4000) (h1 : l0 ++ [.inl (2, [none, some none])] = l1) (h2 : l0 ++ pdB n = l2) : Ct l (SL l1 ad) yX2_init cX2_init 1 none 1 20 [.ref n] X 1 80 (pC (n + 1) ad l2 (fun X' => (∀ i, i < n → X' i = X i) ∧ X' n 0 = nI 0)) := by
  subst h1; subst h2
  refine Ct.of [.ref n] 0 (by decide +kernel) rfl (Nat.le_of_ble_eq_true rfl) (fun F hl hC hRt hin => ?_)
  subst hl
  have hi := hin rfl
  refine g_aload_0 hC dX2_init_0 (pc' := 1) rfl ?_
  refine g_objInit hC ol_X2 ⟨(Nat.le_of_ble_eq_true rfl), (Nat.le_of_ble_eq_true rfl)⟩ (Nat.le_of_ble_eq_true rfl) dX2_init_1 (pc' := 4) rfl ?_
  refine g_aload_0 hC dX2_init_4 (pc' := 5) rfl ?_
  refine g_iconst hC dX2_init_5 (pc' := 6) kc_iconst_0 rfl ?_
  refine g_putI hC fl_X2_9 (sl_at (app_at (k := 0) hn rfl)) rfl rfl rfl dX2_init_6 (pc' := 9) rfl ?_
  refine g_aload_0 hC dX2_init_9 (pc' := 10) rfl ?_
  refine g_bipush hC dX2_init_10 (pc' := 12) kc_bipush_80 rfl ?_
  refine g_newa_char hC (Nat.le_of_ble_eq_true rfl) (N := n + 1) (by rw [List.length_append, hn] <;> rfl) (by omega) (l' := l0 ++ [.inl (2, [none, some none]), .inr (1, 80, [])]) (List.append_assoc _ _ _) ⟨Or.inl (show (n : Nat) < n + 1 by omega), ⟨Or.inl (show (n : Nat) < n + 1 by omega), trivial⟩⟩ ⟨(Nat.le_of_ble_eq_true rfl), (Nat.le_of_ble_eq_true rfl)⟩ dX2_init_12 (pc' := 14) rfl (fun ad1 hq1 => ?_)
  have ag1 : ∀ i, i < n + 1 ∨ 5000 ≤ i → ad1 i = ad i := fun i hi => hq1 i (by omega)
  refine g_putR hC (l' := l0 ++ [.inl (2, [none, some (some (n + 1))]), .inr (1, 80, [])]) hi ff_X2_15 (app_at (k := 0) hn rfl) (Nat.le_of_ble_eq_true rfl) (by rw [List.length_append, hn]; simp only [List.length_cons, List.length_nil]; omega) (app_set (k := 0) hn) dX2_init_14 (pc' := 17) rfl ?_
  refine g_vretC hC hRt dX2_init_17 rfl ag1 rfl ?_
  exact ⟨fun i hi => (gz_ne i (by omega)).trans (gu_ne i (by omega)), (congrFun (gz_ne n (by omega)) 0).trans gu_at⟩

set_option maxHeartbeats 4000000 in
set_option maxRecDepth 100000 in
theorem c_newReader {l : Launch} {l0 l1 l2 : List gE} {n : Nat} {ad : Nat → Nat} {X : gX}  (hn : l0.length = n) (h5 : n < 4000) (h1 : l0 ++ [.inl (1, [none, none, none, none, none])] = l1) (h2 : l0 ++ rdB n = l2) : Ct l (SL l1 ad) yX1_init cX1_init 1 none 1 20 [.ref n] X 0 0 (pC (n + 1) ad l2 (fun X' => (∀ i, i < n → X' i = X i) ∧ True)) := by
  subst h1; subst h2
  refine Ct.of [.ref n] 0 (by decide +kernel) rfl (Nat.le_of_ble_eq_true rfl) (fun F hl hC hRt hin => ?_)
  subst hl
  have hi := hin rfl
  refine g_aload_0 hC dX1_init_0 (pc' := 1) rfl ?_
  refine g_objInit hC ol_X1 ⟨(Nat.le_of_ble_eq_true rfl), (Nat.le_of_ble_eq_true rfl)⟩ (Nat.le_of_ble_eq_true rfl) dX1_init_1 (pc' := 4) rfl ?_
  refine g_vretC hC hRt dX1_init_4 rfl (fun _ _ => rfl) rfl ?_
  exact ⟨fun _ _ => rfl, trivial⟩

def LC0 : List gE := [.inl (6, [some none, some none, some none, some none, some none, some none, some none, some none])]
def LC_1 : List gE := LC0 ++ [.inl (4, [some none, some none, none, none, some none])]
def LC_2 : List gE := LC0 ++ stB 1
def LC_3 : List gE := LC_2.set 0 (.inl (6, [some (some (1)), some none, some none, some none, some none, some none, some none, some none]))
def LC_4 : List gE := LC_3 ++ [.inl (4, [some none, some none, none, none, some none])]
def LC_5 : List gE := LC_3 ++ stB 20
def LC_6 : List gE := LC_5.set 0 (.inl (6, [some (some (1)), some (some (20)), some none, some none, some none, some none, some none, some none]))
def LC_7 : List gE := LC_6 ++ [.inl (5, [none, none, none, none, none, none, some none, some none])]
def LC_8 : List gE := LC_6 ++ tlB 39
def LC_9 : List gE := LC_8.set 0 (.inl (6, [some (some (1)), some (some (20)), some (some (39)), some none, some none, some none, some none, some none]))
def LC_10 : List gE := LC_9 ++ [.inl (0, [none, some none])]

def LH_1 : List gE := LC_10 ++ [.inr (3, 6, [])]
def LH_2 : List gE := LH_1.set 42 (.inl (0, [none, some (some (43))]))
def LH_3 : List gE := LH_2 ++ [.inl (4, [some none, some none, none, none, some none])]
def LH_4 : List gE := LH_2 ++ stB 44
def LH_5 : List gE := LH_4.set 43 (.inr (3, 6, [44]))
def LH_6 : List gE := LH_5 ++ [.inl (4, [some none, some none, none, none, some none])]
def LH_7 : List gE := LH_5 ++ stB 63
def LH_8 : List gE := LH_7.set 43 (.inr (3, 6, [44, 63]))
def LH_9 : List gE := LH_8 ++ [.inl (4, [some none, some none, none, none, some none])]
def LH_10 : List gE := LH_8 ++ stB 82
def LH_11 : List gE := LH_10.set 43 (.inr (3, 6, [44, 63, 82]))
def LH_12 : List gE := LH_11 ++ [.inl (4, [some none, some none, none, none, some none])]
def LH_13 : List gE := LH_11 ++ stB 101
def LH_14 : List gE := LH_13.set 43 (.inr (3, 6, [44, 63, 82, 101]))
def LH_15 : List gE := LH_14 ++ [.inl (4, [some none, some none, none, none, some none])]
def LH_16 : List gE := LH_14 ++ stB 120
def LH_17 : List gE := LH_16.set 43 (.inr (3, 6, [44, 63, 82, 101, 120]))
def LH_18 : List gE := LH_17 ++ [.inl (4, [some none, some none, none, none, some none])]
def LH_19 : List gE := LH_17 ++ stB 139
def LH_20 : List gE := LH_19.set 43 (.inr (3, 6, [44, 63, 82, 101, 120, 139]))
set_option maxHeartbeats 4000000 in
set_option maxRecDepth 100000 in
theorem c_newHistory {l : Launch} {ad : Nat → Nat} {X : gX}  : Ct l (SL LC_10 ad) yX0_init cX0_init 2 none 3 61 [.ref 42] X 115 2958 (pC 43 ad LH_20 (fun X' => (∀ i, i < 42 → X' i = X i) ∧ X' 42 0 = nI 0)) := by
  refine Ct.of [.ref 42, .null] 1 (by decide +kernel) rfl (Nat.le_of_ble_eq_true rfl) (fun F hl hC hRt hin => ?_)
  subst hl
  have hi := hin rfl
  refine g_aload_0 hC dX0_init_0 (pc' := 1) rfl ?_
  refine g_objInit hC ol_X0 ⟨(Nat.le_of_ble_eq_true rfl), (Nat.le_of_ble_eq_true rfl)⟩ (Nat.le_of_ble_eq_true rfl) dX0_init_1 (pc' := 4) rfl ?_
  refine g_aload_0 hC dX0_init_4 (pc' := 5) rfl ?_
  refine g_iconst hC dX0_init_5 (pc' := 6) kc_iconst_0 rfl ?_
  refine g_putI hC fl_X0_9 (sl_at rfl) rfl rfl rfl dX0_init_6 (pc' := 9) rfl ?_
  refine g_aload_0 hC dX0_init_9 (pc' := 10) rfl ?_
  refine g_bipush hC dX0_init_10 (pc' := 12) kc_bipush_6 rfl ?_
  refine g_newq3 hC cq_X0_15 (Nat.le_of_ble_eq_true rfl) (N := 43) (by decide +kernel) (by omega) (l' := LH_1) rfl ⟨Or.inl (show (42 : Nat) < 43 by omega), ⟨Or.inl (show (42 : Nat) < 43 by omega), trivial⟩⟩ ⟨(Nat.le_of_ble_eq_true rfl), (Nat.le_of_ble_eq_true rfl)⟩ dX0_init_12 (pc' := 15) rfl (fun ad1 hq1 => ?_)
  have ag1 : ∀ i, i < 43 ∨ 5000 ≤ i → ad1 i = ad i := fun i hi => hq1 i (by omega)
  refine g_putR hC (l' := LH_2) hi ff_X0_17 rfl (Nat.le_of_ble_eq_true rfl) (by decide +kernel) rfl dX0_init_15 (pc' := 18) rfl ?_
  refine g_iconst hC dX0_init_18 (pc' := 19) kc_iconst_0 rfl ?_
  refine g_istore_1 hC dX0_init_19 (pc' := 20) rfl (Nat.le_of_ble_eq_true rfl) rfl ?_
  refine g_iload_1 hC dX0_init_20 (pc' := 21) rfl ?_
  refine g_bipush hC dX0_init_21 (pc' := 23) kc_bipush_6 rfl ?_
  refine g_icmpN_ge hC dX0_init_23 (pc' := 26) (tgt := 45) (by decide) rfl (by omega) (by omega) (fun h23 => by omega) (fun h23 => ?_)
  refine g_aload_0 hC dX0_init_26 (pc' := 27) rfl ?_
  refine g_getR hC fl_X0_17 (sl_at rfl) rfl dX0_init_27 (pc' := 30) rfl ?_
  refine g_iload_1 hC dX0_init_30 (pc' := 31) rfl ?_
  refine g_new hC fn_X0_15 (N := 44) (by decide +kernel) (by omega) (l' := LH_3) rfl ⟨Or.inl (show (42 : Nat) < 44 by omega), ⟨Or.inl (show (43 : Nat) < 44 by omega), trivial⟩⟩ ⟨(Nat.le_of_ble_eq_true rfl), (Nat.le_of_ble_eq_true rfl)⟩ dX0_init_31 (pc' := 34) rfl (fun ad2 hq2 => ?_)
  have ag2 : ∀ i, i < 43 ∨ 5000 ≤ i → ad2 i = ad i := fun i hi => (hq2 i (by omega)).trans (ag1 i hi)
  refine g_dup hC dX0_init_34 (pc' := 35) rfl rfl ?_
  refine g_callC hC (l' := LH_4) (c_newState (l0 := LH_2) (n := 44) (by decide +kernel) (by decide) rfl rfl) mc_X0_21 ⟨(Nat.le_of_ble_eq_true rfl), (Nat.le_of_ble_eq_true rfl)⟩ (Nat.le_of_ble_eq_true rfl) dX0_init_35 (pc' := 38) rfl ⟨(Nat.le_of_ble_eq_true rfl), (Nat.le_of_ble_eq_true rfl)⟩ ⟨Or.inl (show (42 : Nat) < 45 by omega), ⟨Or.inl (show (44 : Nat) < 45 by omega), ⟨Or.inl (show (43 : Nat) < 45 by omega), trivial⟩⟩⟩ (fun ad3 X3 hq3 hx3 => ?_)
  have ag3 : ∀ i, i < 43 ∨ 5000 ≤ i → ad3 i = ad i := fun i hi => (hq3 i (by omega)).trans (ag2 i hi)
  have F3 : ∀ i, i < 42 → X3 i = X i := fun i hi => (hx3.1 i (by omega)).trans (by repeat (first | rfl | rw [gz_ne i (by omega)] | rw [gu_ne i (by omega)]))
  refine g_astR3 hC (l' := LH_5) rfl rfl (by omega) (Nat.le_of_ble_eq_true rfl) rfl rfl dX0_init_38 (pc' := 39) rfl ?_
  refine g_iinc_1 hC dX0_init_39 (pc' := 42) rfl (Nat.le_of_ble_eq_true rfl) rfl (nI_inc _ _ kc_iinc_1) ?_
  refine g_goto hC dX0_init_42 (tgt := 20) (by decide) ?_
  refine g_iload_1 hC dX0_init_20 (pc' := 21) rfl ?_
  refine g_bipush hC dX0_init_21 (pc' := 23) kc_bipush_6 rfl ?_
  refine g_icmpN_ge hC dX0_init_23 (pc' := 26) (tgt := 45) (by decide) rfl (by omega) (by omega) (fun h23 => by omega) (fun h23 => ?_)
  refine g_aload_0 hC dX0_init_26 (pc' := 27) rfl ?_
  refine g_getR hC fl_X0_17 (sl_at rfl) rfl dX0_init_27 (pc' := 30) rfl ?_
  refine g_iload_1 hC dX0_init_30 (pc' := 31) rfl ?_
  refine g_new hC fn_X0_15 (N := 63) (by decide +kernel) (by omega) (l' := LH_6) rfl ⟨Or.inl (show (42 : Nat) < 63 by omega), ⟨Or.inl (show (43 : Nat) < 63 by omega), trivial⟩⟩ ⟨(Nat.le_of_ble_eq_true rfl), (Nat.le_of_ble_eq_true rfl)⟩ dX0_init_31 (pc' := 34) rfl (fun ad4 hq4 => ?_)
  have ag4 : ∀ i, i < 43 ∨ 5000 ≤ i → ad4 i = ad i := fun i hi => (hq4 i (by omega)).trans (ag3 i hi)
  refine g_dup hC dX0_init_34 (pc' := 35) rfl rfl ?_
  refine g_callC hC (l' := LH_7) (c_newState (l0 := LH_5) (n := 63) (by decide +kernel) (by decide) rfl rfl) mc_X0_21 ⟨(Nat.le_of_ble_eq_true rfl), (Nat.le_of_ble_eq_true rfl)⟩ (Nat.le_of_ble_eq_true rfl) dX0_init_35 (pc' := 38) rfl ⟨(Nat.le_of_ble_eq_true rfl), (Nat.le_of_ble_eq_true rfl)⟩ ⟨Or.inl (show (42 : Nat) < 64 by omega), ⟨Or.inl (show (63 : Nat) < 64 by omega), ⟨Or.inl (show (43 : Nat) < 64 by omega), trivial⟩⟩⟩ (fun ad5 X5 hq5 hx5 => ?_)
  have ag5 : ∀ i, i < 43 ∨ 5000 ≤ i → ad5 i = ad i := fun i hi => (hq5 i (by omega)).trans (ag4 i hi)
  have F5 : ∀ i, i < 63 → X5 i = X3 i := fun i hi => (hx5.1 i (by omega)).trans (by repeat (first | rfl | rw [gz_ne i (by omega)] | rw [gu_ne i (by omega)]))
  refine g_astR3 hC (l' := LH_8) rfl rfl (by omega) (Nat.le_of_ble_eq_true rfl) rfl rfl dX0_init_38 (pc' := 39) rfl ?_
  refine g_iinc_1 hC dX0_init_39 (pc' := 42) rfl (Nat.le_of_ble_eq_true rfl) rfl (nI_inc _ _ kc_iinc_1) ?_
  refine g_goto hC dX0_init_42 (tgt := 20) (by decide) ?_
  refine g_iload_1 hC dX0_init_20 (pc' := 21) rfl ?_
  refine g_bipush hC dX0_init_21 (pc' := 23) kc_bipush_6 rfl ?_
  refine g_icmpN_ge hC dX0_init_23 (pc' := 26) (tgt := 45) (by decide) rfl (by omega) (by omega) (fun h23 => by omega) (fun h23 => ?_)
  refine g_aload_0 hC dX0_init_26 (pc' := 27) rfl ?_
  refine g_getR hC fl_X0_17 (sl_at rfl) rfl dX0_init_27 (pc' := 30) rfl ?_
  refine g_iload_1 hC dX0_init_30 (pc' := 31) rfl ?_
  refine g_new hC fn_X0_15 (N := 82) (by decide +kernel) (by omega) (l' := LH_9) rfl ⟨Or.inl (show (42 : Nat) < 82 by omega), ⟨Or.inl (show (43 : Nat) < 82 by omega), trivial⟩⟩ ⟨(Nat.le_of_ble_eq_true rfl), (Nat.le_of_ble_eq_true rfl)⟩ dX0_init_31 (pc' := 34) rfl (fun ad6 hq6 => ?_)
  have ag6 : ∀ i, i < 43 ∨ 5000 ≤ i → ad6 i = ad i := fun i hi => (hq6 i (by omega)).trans (ag5 i hi)
  refine g_dup hC dX0_init_34 (pc' := 35) rfl rfl ?_
  refine g_callC hC (l' := LH_10) (c_newState (l0 := LH_8) (n := 82) (by decide +kernel) (by decide) rfl rfl) mc_X0_21 ⟨(Nat.le_of_ble_eq_true rfl), (Nat.le_of_ble_eq_true rfl)⟩ (Nat.le_of_ble_eq_true rfl) dX0_init_35 (pc' := 38) rfl ⟨(Nat.le_of_ble_eq_true rfl), (Nat.le_of_ble_eq_true rfl)⟩ ⟨Or.inl (show (42 : Nat) < 83 by omega), ⟨Or.inl (show (82 : Nat) < 83 by omega), ⟨Or.inl (show (43 : Nat) < 83 by omega), trivial⟩⟩⟩ (fun ad7 X7 hq7 hx7 => ?_)
  have ag7 : ∀ i, i < 43 ∨ 5000 ≤ i → ad7 i = ad i := fun i hi => (hq7 i (by omega)).trans (ag6 i hi)
  have F7 : ∀ i, i < 82 → X7 i = X5 i := fun i hi => (hx7.1 i (by omega)).trans (by repeat (first | rfl | rw [gz_ne i (by omega)] | rw [gu_ne i (by omega)]))
  refine g_astR3 hC (l' := LH_11) rfl rfl (by omega) (Nat.le_of_ble_eq_true rfl) rfl rfl dX0_init_38 (pc' := 39) rfl ?_
  refine g_iinc_1 hC dX0_init_39 (pc' := 42) rfl (Nat.le_of_ble_eq_true rfl) rfl (nI_inc _ _ kc_iinc_1) ?_
  refine g_goto hC dX0_init_42 (tgt := 20) (by decide) ?_
  refine g_iload_1 hC dX0_init_20 (pc' := 21) rfl ?_
  refine g_bipush hC dX0_init_21 (pc' := 23) kc_bipush_6 rfl ?_
  refine g_icmpN_ge hC dX0_init_23 (pc' := 26) (tgt := 45) (by decide) rfl (by omega) (by omega) (fun h23 => by omega) (fun h23 => ?_)
  refine g_aload_0 hC dX0_init_26 (pc' := 27) rfl ?_
  refine g_getR hC fl_X0_17 (sl_at rfl) rfl dX0_init_27 (pc' := 30) rfl ?_
  refine g_iload_1 hC dX0_init_30 (pc' := 31) rfl ?_
  refine g_new hC fn_X0_15 (N := 101) (by decide +kernel) (by omega) (l' := LH_12) rfl ⟨Or.inl (show (42 : Nat) < 101 by omega), ⟨Or.inl (show (43 : Nat) < 101 by omega), trivial⟩⟩ ⟨(Nat.le_of_ble_eq_true rfl), (Nat.le_of_ble_eq_true rfl)⟩ dX0_init_31 (pc' := 34) rfl (fun ad8 hq8 => ?_)
  have ag8 : ∀ i, i < 43 ∨ 5000 ≤ i → ad8 i = ad i := fun i hi => (hq8 i (by omega)).trans (ag7 i hi)
  refine g_dup hC dX0_init_34 (pc' := 35) rfl rfl ?_
  refine g_callC hC (l' := LH_13) (c_newState (l0 := LH_11) (n := 101) (by decide +kernel) (by decide) rfl rfl) mc_X0_21 ⟨(Nat.le_of_ble_eq_true rfl), (Nat.le_of_ble_eq_true rfl)⟩ (Nat.le_of_ble_eq_true rfl) dX0_init_35 (pc' := 38) rfl ⟨(Nat.le_of_ble_eq_true rfl), (Nat.le_of_ble_eq_true rfl)⟩ ⟨Or.inl (show (42 : Nat) < 102 by omega), ⟨Or.inl (show (101 : Nat) < 102 by omega), ⟨Or.inl (show (43 : Nat) < 102 by omega), trivial⟩⟩⟩ (fun ad9 X9 hq9 hx9 => ?_)
  have ag9 : ∀ i, i < 43 ∨ 5000 ≤ i → ad9 i = ad i := fun i hi => (hq9 i (by omega)).trans (ag8 i hi)
  have F9 : ∀ i, i < 101 → X9 i = X7 i := fun i hi => (hx9.1 i (by omega)).trans (by repeat (first | rfl | rw [gz_ne i (by omega)] | rw [gu_ne i (by omega)]))
  refine g_astR3 hC (l' := LH_14) rfl rfl (by omega) (Nat.le_of_ble_eq_true rfl) rfl rfl dX0_init_38 (pc' := 39) rfl ?_
  refine g_iinc_1 hC dX0_init_39 (pc' := 42) rfl (Nat.le_of_ble_eq_true rfl) rfl (nI_inc _ _ kc_iinc_1) ?_
  refine g_goto hC dX0_init_42 (tgt := 20) (by decide) ?_
  refine g_iload_1 hC dX0_init_20 (pc' := 21) rfl ?_
  refine g_bipush hC dX0_init_21 (pc' := 23) kc_bipush_6 rfl ?_
  refine g_icmpN_ge hC dX0_init_23 (pc' := 26) (tgt := 45) (by decide) rfl (by omega) (by omega) (fun h23 => by omega) (fun h23 => ?_)
  refine g_aload_0 hC dX0_init_26 (pc' := 27) rfl ?_
  refine g_getR hC fl_X0_17 (sl_at rfl) rfl dX0_init_27 (pc' := 30) rfl ?_
  refine g_iload_1 hC dX0_init_30 (pc' := 31) rfl ?_
  refine g_new hC fn_X0_15 (N := 120) (by decide +kernel) (by omega) (l' := LH_15) rfl ⟨Or.inl (show (42 : Nat) < 120 by omega), ⟨Or.inl (show (43 : Nat) < 120 by omega), trivial⟩⟩ ⟨(Nat.le_of_ble_eq_true rfl), (Nat.le_of_ble_eq_true rfl)⟩ dX0_init_31 (pc' := 34) rfl (fun ad10 hq10 => ?_)
  have ag10 : ∀ i, i < 43 ∨ 5000 ≤ i → ad10 i = ad i := fun i hi => (hq10 i (by omega)).trans (ag9 i hi)
  refine g_dup hC dX0_init_34 (pc' := 35) rfl rfl ?_
  refine g_callC hC (l' := LH_16) (c_newState (l0 := LH_14) (n := 120) (by decide +kernel) (by decide) rfl rfl) mc_X0_21 ⟨(Nat.le_of_ble_eq_true rfl), (Nat.le_of_ble_eq_true rfl)⟩ (Nat.le_of_ble_eq_true rfl) dX0_init_35 (pc' := 38) rfl ⟨(Nat.le_of_ble_eq_true rfl), (Nat.le_of_ble_eq_true rfl)⟩ ⟨Or.inl (show (42 : Nat) < 121 by omega), ⟨Or.inl (show (120 : Nat) < 121 by omega), ⟨Or.inl (show (43 : Nat) < 121 by omega), trivial⟩⟩⟩ (fun ad11 X11 hq11 hx11 => ?_)
  have ag11 : ∀ i, i < 43 ∨ 5000 ≤ i → ad11 i = ad i := fun i hi => (hq11 i (by omega)).trans (ag10 i hi)
  have F11 : ∀ i, i < 120 → X11 i = X9 i := fun i hi => (hx11.1 i (by omega)).trans (by repeat (first | rfl | rw [gz_ne i (by omega)] | rw [gu_ne i (by omega)]))
  refine g_astR3 hC (l' := LH_17) rfl rfl (by omega) (Nat.le_of_ble_eq_true rfl) rfl rfl dX0_init_38 (pc' := 39) rfl ?_
  refine g_iinc_1 hC dX0_init_39 (pc' := 42) rfl (Nat.le_of_ble_eq_true rfl) rfl (nI_inc _ _ kc_iinc_1) ?_
  refine g_goto hC dX0_init_42 (tgt := 20) (by decide) ?_
  refine g_iload_1 hC dX0_init_20 (pc' := 21) rfl ?_
  refine g_bipush hC dX0_init_21 (pc' := 23) kc_bipush_6 rfl ?_
  refine g_icmpN_ge hC dX0_init_23 (pc' := 26) (tgt := 45) (by decide) rfl (by omega) (by omega) (fun h23 => by omega) (fun h23 => ?_)
  refine g_aload_0 hC dX0_init_26 (pc' := 27) rfl ?_
  refine g_getR hC fl_X0_17 (sl_at rfl) rfl dX0_init_27 (pc' := 30) rfl ?_
  refine g_iload_1 hC dX0_init_30 (pc' := 31) rfl ?_
  refine g_new hC fn_X0_15 (N := 139) (by decide +kernel) (by omega) (l' := LH_18) rfl ⟨Or.inl (show (42 : Nat) < 139 by omega), ⟨Or.inl (show (43 : Nat) < 139 by omega), trivial⟩⟩ ⟨(Nat.le_of_ble_eq_true rfl), (Nat.le_of_ble_eq_true rfl)⟩ dX0_init_31 (pc' := 34) rfl (fun ad12 hq12 => ?_)
  have ag12 : ∀ i, i < 43 ∨ 5000 ≤ i → ad12 i = ad i := fun i hi => (hq12 i (by omega)).trans (ag11 i hi)
  refine g_dup hC dX0_init_34 (pc' := 35) rfl rfl ?_
  refine g_callC hC (l' := LH_19) (c_newState (l0 := LH_17) (n := 139) (by decide +kernel) (by decide) rfl rfl) mc_X0_21 ⟨(Nat.le_of_ble_eq_true rfl), (Nat.le_of_ble_eq_true rfl)⟩ (Nat.le_of_ble_eq_true rfl) dX0_init_35 (pc' := 38) rfl ⟨(Nat.le_of_ble_eq_true rfl), (Nat.le_of_ble_eq_true rfl)⟩ ⟨Or.inl (show (42 : Nat) < 140 by omega), ⟨Or.inl (show (139 : Nat) < 140 by omega), ⟨Or.inl (show (43 : Nat) < 140 by omega), trivial⟩⟩⟩ (fun ad13 X13 hq13 hx13 => ?_)
  have ag13 : ∀ i, i < 43 ∨ 5000 ≤ i → ad13 i = ad i := fun i hi => (hq13 i (by omega)).trans (ag12 i hi)
  have F13 : ∀ i, i < 139 → X13 i = X11 i := fun i hi => (hx13.1 i (by omega)).trans (by repeat (first | rfl | rw [gz_ne i (by omega)] | rw [gu_ne i (by omega)]))
  refine g_astR3 hC (l' := LH_20) rfl rfl (by omega) (Nat.le_of_ble_eq_true rfl) rfl rfl dX0_init_38 (pc' := 39) rfl ?_
  refine g_iinc_1 hC dX0_init_39 (pc' := 42) rfl (Nat.le_of_ble_eq_true rfl) rfl (nI_inc _ _ kc_iinc_1) ?_
  refine g_goto hC dX0_init_42 (tgt := 20) (by decide) ?_
  refine g_iload_1 hC dX0_init_20 (pc' := 21) rfl ?_
  refine g_bipush hC dX0_init_21 (pc' := 23) kc_bipush_6 rfl ?_
  refine g_icmpN_ge hC dX0_init_23 (pc' := 26) (tgt := 45) (by decide) rfl (by omega) (by omega) (fun h23 => ?_) (fun h23 => by omega)
  refine g_vretC hC hRt dX0_init_45 rfl ag13 rfl ?_
  refine ⟨fun i hi => ((F13 i (by omega)).trans ((F11 i (by omega)).trans ((F9 i (by omega)).trans ((F7 i (by omega)).trans ((F5 i (by omega)).trans (F3 i (by omega))))))), ?_⟩
  exact (congrFun ((F13 42 (by omega)).trans ((F11 42 (by omega)).trans ((F9 42 (by omega)).trans ((F7 42 (by omega)).trans (F5 42 (by omega)))))) 0).trans ((congrFun (hx3.1 42 (by omega)) 0).trans (by rw [gz_ne 42 (by omega), gz_ne 42 (by omega), gu_at]))

def LC_11 : List gE := LH_20
def LC_12 : List gE := LC_11.set 0 (.inl (6, [some (some (1)), some (some (20)), some (some (39)), some (some (42)), some none, some none, some none, some none]))
def LC_13 : List gE := LC_12 ++ [.inr (3, 2, [])]
def LC_14 : List gE := LC_13.set 0 (.inl (6, [some (some (1)), some (some (20)), some (some (39)), some (some (42)), some (some (158)), some none, some none, some none]))
def LC_15 : List gE := LC_14 ++ [.inr (2, 2, [])]
def LC_16 : List gE := LC_15.set 0 (.inl (6, [some (some (1)), some (some (20)), some (some (39)), some (some (42)), some (some (158)), some (some (159)), some none, some none]))
def LC_17 : List gE := LC_16 ++ [.inl (2, [none, some none])]
def LC_18 : List gE := LC_16 ++ pdB 160
def LC_19 : List gE := LC_18.set 0 (.inl (6, [some (some (1)), some (some (20)), some (some (39)), some (some (42)), some (some (158)), some (some (159)), some (some (160)), some none]))
def LC_20 : List gE := LC_19 ++ [.inl (1, [none, none, none, none, none])]
def LC_21 : List gE := LC_19 ++ rdB 162
def LC_22 : List gE := LC_21.set 0 (.inl (6, [some (some (1)), some (some (20)), some (some (39)), some (some (42)), some (some (158)), some (some (159)), some (some (160)), some (some (162))]))
def LC_23 : List gE := LC_22 ++ [.inl (4, [some none, some none, none, none, some none])]
def LC_24 : List gE := LC_22 ++ stB 163
def LC_25 : List gE := LC_24.set 158 (.inr (3, 2, [163]))
def LC_26 : List gE := LC_25 ++ [.inl (4, [some none, some none, none, none, some none])]
def LC_27 : List gE := LC_25 ++ stB 182
def LC_28 : List gE := LC_27.set 158 (.inr (3, 2, [163, 182]))

set_option maxHeartbeats 4000000 in
set_option maxRecDepth 100000 in
theorem c_newSheets {l : Launch} {ad : Nat → Nat} {X : gX}  : Ct l (SL LC0 ad) yX6_init cX6_init 2 none 4 82 [.ref 0] X 200 5037 (pC 1 ad LC_28 (fun X' => RS X' 1 g0 ∧ X' 42 0 = nI 0 ∧ X' 160 0 = nI 0 ∧ ∀ j, X' 159 j = nI 0)) := by
  refine Ct.of [.ref 0, .null] 1 (by decide +kernel) rfl (Nat.le_of_ble_eq_true rfl) (fun F hl hC hRt hin => ?_)
  subst hl
  have hi := hin rfl
  refine g_aload_0 hC dX6_init_0 (pc' := 1) rfl ?_
  refine g_objInit hC ol_X6 ⟨(Nat.le_of_ble_eq_true rfl), (Nat.le_of_ble_eq_true rfl)⟩ (Nat.le_of_ble_eq_true rfl) dX6_init_1 (pc' := 4) rfl ?_
  refine g_aload_0 hC dX6_init_4 (pc' := 5) rfl ?_
  refine g_new hC fn_X6_7 (N := 1) (by decide +kernel) (by omega) (l' := LC_1) rfl ⟨Or.inl (show (0 : Nat) < 1 by omega), ⟨Or.inl (show (0 : Nat) < 1 by omega), trivial⟩⟩ ⟨(Nat.le_of_ble_eq_true rfl), (Nat.le_of_ble_eq_true rfl)⟩ dX6_init_5 (pc' := 8) rfl (fun ad1 hq1 => ?_)
  have ag1 : ∀ i, i < 1 ∨ 5000 ≤ i → ad1 i = ad i := fun i hi => hq1 i (by omega)
  refine g_dup hC dX6_init_8 (pc' := 9) rfl rfl ?_
  refine g_callC hC (l' := LC_2) (c_newState (l0 := LC0) (n := 1) (by decide +kernel) (by decide) rfl rfl) mc_X6_9 ⟨(Nat.le_of_ble_eq_true rfl), (Nat.le_of_ble_eq_true rfl)⟩ (Nat.le_of_ble_eq_true rfl) dX6_init_9 (pc' := 12) rfl ⟨(Nat.le_of_ble_eq_true rfl), (Nat.le_of_ble_eq_true rfl)⟩ ⟨Or.inl (show (0 : Nat) < 2 by omega), ⟨Or.inl (show (1 : Nat) < 2 by omega), ⟨Or.inl (show (0 : Nat) < 2 by omega), trivial⟩⟩⟩ (fun ad2 X2 hq2 hx2 => ?_)
  have ag2 : ∀ i, i < 1 ∨ 5000 ≤ i → ad2 i = ad i := fun i hi => (hq2 i (by omega)).trans (ag1 i hi)
  have hR := hx2.2
  have F2 : ∀ i, i < 0 → X2 i = X i := fun i hi => (hx2.1 i (by omega)).trans (by repeat (first | rfl | rw [gz_ne i (by omega)] | rw [gu_ne i (by omega)]))
  refine g_putR hC (l' := LC_3) hi ff_X6_10 rfl (Nat.le_of_ble_eq_true rfl) (by decide +kernel) rfl dX6_init_12 (pc' := 15) rfl ?_
  refine g_aload_0 hC dX6_init_15 (pc' := 16) rfl ?_
  refine g_new hC fn_X6_7 (N := 20) (by decide +kernel) (by omega) (l' := LC_4) rfl ⟨Or.inl (show (0 : Nat) < 20 by omega), ⟨Or.inl (show (0 : Nat) < 20 by omega), trivial⟩⟩ ⟨(Nat.le_of_ble_eq_true rfl), (Nat.le_of_ble_eq_true rfl)⟩ dX6_init_16 (pc' := 19) rfl (fun ad3 hq3 => ?_)
  have ag3 : ∀ i, i < 1 ∨ 5000 ≤ i → ad3 i = ad i := fun i hi => (hq3 i (by omega)).trans (ag2 i hi)
  refine g_dup hC dX6_init_19 (pc' := 20) rfl rfl ?_
  refine g_callC hC (l' := LC_5) (c_newState (l0 := LC_3) (n := 20) (by decide +kernel) (by decide) rfl rfl) mc_X6_9 ⟨(Nat.le_of_ble_eq_true rfl), (Nat.le_of_ble_eq_true rfl)⟩ (Nat.le_of_ble_eq_true rfl) dX6_init_20 (pc' := 23) rfl ⟨(Nat.le_of_ble_eq_true rfl), (Nat.le_of_ble_eq_true rfl)⟩ ⟨Or.inl (show (0 : Nat) < 21 by omega), ⟨Or.inl (show (20 : Nat) < 21 by omega), ⟨Or.inl (show (0 : Nat) < 21 by omega), trivial⟩⟩⟩ (fun ad4 X4 hq4 hx4 => ?_)
  have ag4 : ∀ i, i < 1 ∨ 5000 ≤ i → ad4 i = ad i := fun i hi => (hq4 i (by omega)).trans (ag3 i hi)
  have F4 : ∀ i, i < 20 → X4 i = X2 i := fun i hi => (hx4.1 i (by omega)).trans (by repeat (first | rfl | rw [gz_ne i (by omega)] | rw [gu_ne i (by omega)]))
  refine g_putR hC (l' := LC_6) hi ff_X6_16 rfl (Nat.le_of_ble_eq_true rfl) (by decide +kernel) rfl dX6_init_23 (pc' := 26) rfl ?_
  refine g_aload_0 hC dX6_init_26 (pc' := 27) rfl ?_
  refine g_new hC fn_X6_19 (N := 39) (by decide +kernel) (by omega) (l' := LC_7) rfl ⟨Or.inl (show (0 : Nat) < 39 by omega), ⟨Or.inl (show (0 : Nat) < 39 by omega), trivial⟩⟩ ⟨(Nat.le_of_ble_eq_true rfl), (Nat.le_of_ble_eq_true rfl)⟩ dX6_init_27 (pc' := 30) rfl (fun ad5 hq5 => ?_)
  have ag5 : ∀ i, i < 1 ∨ 5000 ≤ i → ad5 i = ad i := fun i hi => (hq5 i (by omega)).trans (ag4 i hi)
  refine g_dup hC dX6_init_30 (pc' := 31) rfl rfl ?_
  refine g_callCN hC (l' := LC_8) (c_newTally (l0 := LC_6) (n := 39) (by decide +kernel) (by decide) rfl rfl) mc_X6_21 ⟨(Nat.le_of_ble_eq_true rfl), (Nat.le_of_ble_eq_true rfl)⟩ (Nat.le_of_ble_eq_true rfl) dX6_init_31 (pc' := 34) rfl ⟨(Nat.le_of_ble_eq_true rfl), (Nat.le_of_ble_eq_true rfl)⟩ ⟨Or.inl (show (0 : Nat) < 40 by omega), ⟨Or.inl (show (39 : Nat) < 40 by omega), ⟨Or.inl (show (0 : Nat) < 40 by omega), trivial⟩⟩⟩ (fun ad6 X6 hq6 hx6 => ?_)
  have ag6 : ∀ i, i < 1 ∨ 5000 ≤ i → ad6 i = ad i := fun i hi => (hq6 i (by omega)).trans (ag5 i hi)
  have F6 : ∀ i, i < 39 → X6 i = X4 i := fun i hi => (hx6.1 i (by omega)).trans (by repeat (first | rfl | rw [gz_ne i (by omega)] | rw [gu_ne i (by omega)]))
  refine g_putR hC (l' := LC_9) hi ff_X6_22 rfl (Nat.le_of_ble_eq_true rfl) (by decide +kernel) rfl dX6_init_34 (pc' := 37) rfl ?_
  refine g_aload_0 hC dX6_init_37 (pc' := 38) rfl ?_
  refine g_new hC fn_X6_26 (N := 42) (by decide +kernel) (by omega) (l' := LC_10) rfl ⟨Or.inl (show (0 : Nat) < 42 by omega), ⟨Or.inl (show (0 : Nat) < 42 by omega), trivial⟩⟩ ⟨(Nat.le_of_ble_eq_true rfl), (Nat.le_of_ble_eq_true rfl)⟩ dX6_init_38 (pc' := 41) rfl (fun ad7 hq7 => ?_)
  have ag7 : ∀ i, i < 1 ∨ 5000 ≤ i → ad7 i = ad i := fun i hi => (hq7 i (by omega)).trans (ag6 i hi)
  refine g_dup hC dX6_init_41 (pc' := 42) rfl rfl ?_
  refine g_callC hC (l' := LC_11) (c_newHistory) mc_X6_28 ⟨(Nat.le_of_ble_eq_true rfl), (Nat.le_of_ble_eq_true rfl)⟩ (Nat.le_of_ble_eq_true rfl) dX6_init_42 (pc' := 45) rfl ⟨(Nat.le_of_ble_eq_true rfl), (Nat.le_of_ble_eq_true rfl)⟩ ⟨Or.inl (show (0 : Nat) < 43 by omega), ⟨Or.inl (show (42 : Nat) < 43 by omega), ⟨Or.inl (show (0 : Nat) < 43 by omega), trivial⟩⟩⟩ (fun ad8 X8 hq8 hx8 => ?_)
  have ag8 : ∀ i, i < 1 ∨ 5000 ≤ i → ad8 i = ad i := fun i hi => (hq8 i (by omega)).trans (ag7 i hi)
  have F8 : ∀ i, i < 42 → X8 i = X6 i := fun i hi => (hx8.1 i (by omega)).trans (by repeat (first | rfl | rw [gz_ne i (by omega)] | rw [gu_ne i (by omega)]))
  refine g_putR hC (l' := LC_12) hi ff_X6_29 rfl (Nat.le_of_ble_eq_true rfl) (by decide +kernel) rfl dX6_init_45 (pc' := 48) rfl ?_
  refine g_aload_0 hC dX6_init_48 (pc' := 49) rfl ?_
  refine g_iconst hC dX6_init_49 (pc' := 50) kc_iconst_2 rfl ?_
  refine g_newq3 hC cq_X6_7 (Nat.le_of_ble_eq_true rfl) (N := 158) (by decide +kernel) (by omega) (l' := LC_13) rfl ⟨Or.inl (show (0 : Nat) < 158 by omega), ⟨Or.inl (show (0 : Nat) < 158 by omega), trivial⟩⟩ ⟨(Nat.le_of_ble_eq_true rfl), (Nat.le_of_ble_eq_true rfl)⟩ dX6_init_50 (pc' := 53) rfl (fun ad9 hq9 => ?_)
  have ag9 : ∀ i, i < 1 ∨ 5000 ≤ i → ad9 i = ad i := fun i hi => (hq9 i (by omega)).trans (ag8 i hi)
  refine g_putR hC (l' := LC_14) hi ff_X6_33 rfl (Nat.le_of_ble_eq_true rfl) (by decide +kernel) rfl dX6_init_53 (pc' := 56) rfl ?_
  refine g_aload_0 hC dX6_init_56 (pc' := 57) rfl ?_
  refine g_iconst hC dX6_init_57 (pc' := 58) kc_iconst_2 rfl ?_
  refine g_newa_boolean hC (Nat.le_of_ble_eq_true rfl) (N := 159) (by decide +kernel) (by omega) (l' := LC_15) rfl ⟨Or.inl (show (0 : Nat) < 159 by omega), ⟨Or.inl (show (0 : Nat) < 159 by omega), trivial⟩⟩ ⟨(Nat.le_of_ble_eq_true rfl), (Nat.le_of_ble_eq_true rfl)⟩ dX6_init_58 (pc' := 60) rfl (fun ad10 hq10 => ?_)
  have ag10 : ∀ i, i < 1 ∨ 5000 ≤ i → ad10 i = ad i := fun i hi => (hq10 i (by omega)).trans (ag9 i hi)
  refine g_putR hC (l' := LC_16) hi ff_X6_37 rfl (Nat.le_of_ble_eq_true rfl) (by decide +kernel) rfl dX6_init_60 (pc' := 63) rfl ?_
  refine g_aload_0 hC dX6_init_63 (pc' := 64) rfl ?_
  refine g_new hC fn_X6_41 (N := 160) (by decide +kernel) (by omega) (l' := LC_17) rfl ⟨Or.inl (show (0 : Nat) < 160 by omega), ⟨Or.inl (show (0 : Nat) < 160 by omega), trivial⟩⟩ ⟨(Nat.le_of_ble_eq_true rfl), (Nat.le_of_ble_eq_true rfl)⟩ dX6_init_64 (pc' := 67) rfl (fun ad11 hq11 => ?_)
  have ag11 : ∀ i, i < 1 ∨ 5000 ≤ i → ad11 i = ad i := fun i hi => (hq11 i (by omega)).trans (ag10 i hi)
  refine g_dup hC dX6_init_67 (pc' := 68) rfl rfl ?_
  refine g_callCN hC (l' := LC_18) (c_newPad (l0 := LC_16) (n := 160) (by decide +kernel) (by decide) rfl rfl) mc_X6_43 ⟨(Nat.le_of_ble_eq_true rfl), (Nat.le_of_ble_eq_true rfl)⟩ (Nat.le_of_ble_eq_true rfl) dX6_init_68 (pc' := 71) rfl ⟨(Nat.le_of_ble_eq_true rfl), (Nat.le_of_ble_eq_true rfl)⟩ ⟨Or.inl (show (0 : Nat) < 161 by omega), ⟨Or.inl (show (160 : Nat) < 161 by omega), ⟨Or.inl (show (0 : Nat) < 161 by omega), trivial⟩⟩⟩ (fun ad12 X12 hq12 hx12 => ?_)
  have ag12 : ∀ i, i < 1 ∨ 5000 ≤ i → ad12 i = ad i := fun i hi => (hq12 i (by omega)).trans (ag11 i hi)
  have h159 : ∀ j, X12 159 j = nI 0 := fun j => (congrFun (hx12.1 159 (by omega)) j).trans ((congrFun (gz_ne 159 (by omega)) j).trans gz_at)
  have h160 := hx12.2
  have F12 : ∀ i, i < 158 → X12 i = X8 i := fun i hi => (hx12.1 i (by omega)).trans (by repeat (first | rfl | rw [gz_ne i (by omega)] | rw [gu_ne i (by omega)]))
  refine g_putR hC (l' := LC_19) hi ff_X6_44 rfl (Nat.le_of_ble_eq_true rfl) (by decide +kernel) rfl dX6_init_71 (pc' := 74) rfl ?_
  refine g_aload_0 hC dX6_init_74 (pc' := 75) rfl ?_
  refine g_new hC fn_X6_48 (N := 162) (by decide +kernel) (by omega) (l' := LC_20) rfl ⟨Or.inl (show (0 : Nat) < 162 by omega), ⟨Or.inl (show (0 : Nat) < 162 by omega), trivial⟩⟩ ⟨(Nat.le_of_ble_eq_true rfl), (Nat.le_of_ble_eq_true rfl)⟩ dX6_init_75 (pc' := 78) rfl (fun ad13 hq13 => ?_)
  have ag13 : ∀ i, i < 1 ∨ 5000 ≤ i → ad13 i = ad i := fun i hi => (hq13 i (by omega)).trans (ag12 i hi)
  refine g_dup hC dX6_init_78 (pc' := 79) rfl rfl ?_
  refine g_callCN hC (l' := LC_21) (c_newReader (l0 := LC_19) (n := 162) (by decide +kernel) (by decide) rfl rfl) mc_X6_50 ⟨(Nat.le_of_ble_eq_true rfl), (Nat.le_of_ble_eq_true rfl)⟩ (Nat.le_of_ble_eq_true rfl) dX6_init_79 (pc' := 82) rfl ⟨(Nat.le_of_ble_eq_true rfl), (Nat.le_of_ble_eq_true rfl)⟩ ⟨Or.inl (show (0 : Nat) < 163 by omega), ⟨Or.inl (show (162 : Nat) < 163 by omega), ⟨Or.inl (show (0 : Nat) < 163 by omega), trivial⟩⟩⟩ (fun ad14 X14 hq14 hx14 => ?_)
  have ag14 : ∀ i, i < 1 ∨ 5000 ≤ i → ad14 i = ad i := fun i hi => (hq14 i (by omega)).trans (ag13 i hi)
  have F14 : ∀ i, i < 162 → X14 i = X12 i := fun i hi => (hx14.1 i (by omega)).trans (by repeat (first | rfl | rw [gz_ne i (by omega)] | rw [gu_ne i (by omega)]))
  refine g_putR hC (l' := LC_22) hi ff_X6_51 rfl (Nat.le_of_ble_eq_true rfl) (by decide +kernel) rfl dX6_init_82 (pc' := 85) rfl ?_
  refine g_iconst hC dX6_init_85 (pc' := 86) kc_iconst_0 rfl ?_
  refine g_istore_1 hC dX6_init_86 (pc' := 87) rfl (Nat.le_of_ble_eq_true rfl) rfl ?_
  refine g_iload_1 hC dX6_init_87 (pc' := 88) rfl ?_
  refine g_iconst hC dX6_init_88 (pc' := 89) kc_iconst_2 rfl ?_
  refine g_icmpN_ge hC dX6_init_89 (pc' := 92) (tgt := 111) (by decide) rfl (by omega) (by omega) (fun h89 => by omega) (fun h89 => ?_)
  refine g_aload_0 hC dX6_init_92 (pc' := 93) rfl ?_
  refine g_getR hC fl_X6_33 (sl_at rfl) rfl dX6_init_93 (pc' := 96) rfl ?_
  refine g_iload_1 hC dX6_init_96 (pc' := 97) rfl ?_
  refine g_new hC fn_X6_7 (N := 163) (by decide +kernel) (by omega) (l' := LC_23) rfl ⟨Or.inl (show (0 : Nat) < 163 by omega), ⟨Or.inl (show (158 : Nat) < 163 by omega), trivial⟩⟩ ⟨(Nat.le_of_ble_eq_true rfl), (Nat.le_of_ble_eq_true rfl)⟩ dX6_init_97 (pc' := 100) rfl (fun ad15 hq15 => ?_)
  have ag15 : ∀ i, i < 1 ∨ 5000 ≤ i → ad15 i = ad i := fun i hi => (hq15 i (by omega)).trans (ag14 i hi)
  refine g_dup hC dX6_init_100 (pc' := 101) rfl rfl ?_
  refine g_callC hC (l' := LC_24) (c_newState (l0 := LC_22) (n := 163) (by decide +kernel) (by decide) rfl rfl) mc_X6_9 ⟨(Nat.le_of_ble_eq_true rfl), (Nat.le_of_ble_eq_true rfl)⟩ (Nat.le_of_ble_eq_true rfl) dX6_init_101 (pc' := 104) rfl ⟨(Nat.le_of_ble_eq_true rfl), (Nat.le_of_ble_eq_true rfl)⟩ ⟨Or.inl (show (0 : Nat) < 164 by omega), ⟨Or.inl (show (163 : Nat) < 164 by omega), ⟨Or.inl (show (158 : Nat) < 164 by omega), trivial⟩⟩⟩ (fun ad16 X16 hq16 hx16 => ?_)
  have ag16 : ∀ i, i < 1 ∨ 5000 ≤ i → ad16 i = ad i := fun i hi => (hq16 i (by omega)).trans (ag15 i hi)
  have F16 : ∀ i, i < 163 → X16 i = X14 i := fun i hi => (hx16.1 i (by omega)).trans (by repeat (first | rfl | rw [gz_ne i (by omega)] | rw [gu_ne i (by omega)]))
  refine g_astR3 hC (l' := LC_25) rfl rfl (by omega) (Nat.le_of_ble_eq_true rfl) rfl rfl dX6_init_104 (pc' := 105) rfl ?_
  refine g_iinc_1 hC dX6_init_105 (pc' := 108) rfl (Nat.le_of_ble_eq_true rfl) rfl (nI_inc _ _ kc_iinc_1) ?_
  refine g_goto hC dX6_init_108 (tgt := 87) (by decide) ?_
  refine g_iload_1 hC dX6_init_87 (pc' := 88) rfl ?_
  refine g_iconst hC dX6_init_88 (pc' := 89) kc_iconst_2 rfl ?_
  refine g_icmpN_ge hC dX6_init_89 (pc' := 92) (tgt := 111) (by decide) rfl (by omega) (by omega) (fun h89 => by omega) (fun h89 => ?_)
  refine g_aload_0 hC dX6_init_92 (pc' := 93) rfl ?_
  refine g_getR hC fl_X6_33 (sl_at rfl) rfl dX6_init_93 (pc' := 96) rfl ?_
  refine g_iload_1 hC dX6_init_96 (pc' := 97) rfl ?_
  refine g_new hC fn_X6_7 (N := 182) (by decide +kernel) (by omega) (l' := LC_26) rfl ⟨Or.inl (show (0 : Nat) < 182 by omega), ⟨Or.inl (show (158 : Nat) < 182 by omega), trivial⟩⟩ ⟨(Nat.le_of_ble_eq_true rfl), (Nat.le_of_ble_eq_true rfl)⟩ dX6_init_97 (pc' := 100) rfl (fun ad17 hq17 => ?_)
  have ag17 : ∀ i, i < 1 ∨ 5000 ≤ i → ad17 i = ad i := fun i hi => (hq17 i (by omega)).trans (ag16 i hi)
  refine g_dup hC dX6_init_100 (pc' := 101) rfl rfl ?_
  refine g_callC hC (l' := LC_27) (c_newState (l0 := LC_25) (n := 182) (by decide +kernel) (by decide) rfl rfl) mc_X6_9 ⟨(Nat.le_of_ble_eq_true rfl), (Nat.le_of_ble_eq_true rfl)⟩ (Nat.le_of_ble_eq_true rfl) dX6_init_101 (pc' := 104) rfl ⟨(Nat.le_of_ble_eq_true rfl), (Nat.le_of_ble_eq_true rfl)⟩ ⟨Or.inl (show (0 : Nat) < 183 by omega), ⟨Or.inl (show (182 : Nat) < 183 by omega), ⟨Or.inl (show (158 : Nat) < 183 by omega), trivial⟩⟩⟩ (fun ad18 X18 hq18 hx18 => ?_)
  have ag18 : ∀ i, i < 1 ∨ 5000 ≤ i → ad18 i = ad i := fun i hi => (hq18 i (by omega)).trans (ag17 i hi)
  have F18 : ∀ i, i < 182 → X18 i = X16 i := fun i hi => (hx18.1 i (by omega)).trans (by repeat (first | rfl | rw [gz_ne i (by omega)] | rw [gu_ne i (by omega)]))
  refine g_astR3 hC (l' := LC_28) rfl rfl (by omega) (Nat.le_of_ble_eq_true rfl) rfl rfl dX6_init_104 (pc' := 105) rfl ?_
  refine g_iinc_1 hC dX6_init_105 (pc' := 108) rfl (Nat.le_of_ble_eq_true rfl) rfl (nI_inc _ _ kc_iinc_1) ?_
  refine g_goto hC dX6_init_108 (tgt := 87) (by decide) ?_
  refine g_iload_1 hC dX6_init_87 (pc' := 88) rfl ?_
  refine g_iconst hC dX6_init_88 (pc' := 89) kc_iconst_2 rfl ?_
  refine g_icmpN_ge hC dX6_init_89 (pc' := 92) (tgt := 111) (by decide) rfl (by omega) (by omega) (fun h89 => ?_) (fun h89 => by omega)
  refine g_vretC hC hRt dX6_init_111 rfl ag18 rfl ?_
  refine ⟨hR.of (fun i _ hi _ => ((F18 i (by omega)).trans ((F16 i (by omega)).trans ((F14 i (by omega)).trans ((F12 i (by omega)).trans ((F8 i (by omega)).trans ((F6 i (by omega)).trans (F4 i (by omega))))))))), ?_, ?_, fun j => ?_⟩
  · exact (congrFun ((F18 42 (by omega)).trans ((F16 42 (by omega)).trans ((F14 42 (by omega)).trans (F12 42 (by omega))))) 0).trans hx8.2
  · exact (congrFun ((F18 160 (by omega)).trans ((F16 160 (by omega)).trans (F14 160 (by omega)))) 0).trans h160
  · exact (congrFun ((F18 159 (by omega)).trans ((F16 159 (by omega)).trans (F14 159 (by omega)))) j).trans (h159 j)

def LM0 : List gE := LC_28 ++ [.inl (7, [some none, some none, some none, none, some none, some none, some none, none, none, some none, none, none, none, none, none, some none, none, none, none])]

def LM_1 : List gE := LM0 ++ [.inr (0, 470, [])]
def LM_2 : List gE := LM_1.set 201 (.inl (7, [some (some (202)), some none, some none, none, some none, some none, some none, none, none, some none, none, none, none, none, none, some none, none, none, none]))
def LM_3 : List gE := LM_2 ++ [.inr (0, 470, [])]
def LM_4 : List gE := LM_3.set 201 (.inl (7, [some (some (202)), some (some (203)), some none, none, some none, some none, some none, none, none, some none, none, none, none, none, none, some none, none, none, none]))
def LM_5 : List gE := LM_4 ++ [.inr (0, 2820, [])]
def LM_6 : List gE := LM_5.set 201 (.inl (7, [some (some (202)), some (some (203)), some (some (204)), none, some none, some none, some none, none, none, some none, none, none, none, none, none, some none, none, none, none]))
def LM_7 : List gE := LM_6 ++ [.inr (0, 940, [])]
def LM_8 : List gE := LM_7.set 201 (.inl (7, [some (some (202)), some (some (203)), some (some (204)), none, some (some (205)), some none, some none, none, none, some none, none, none, none, none, none, some none, none, none, none]))
def LM_9 : List gE := LM_8 ++ [.inr (2, 2, [])]
def LM_10 : List gE := LM_9.set 201 (.inl (7, [some (some (202)), some (some (203)), some (some (204)), none, some (some (205)), some (some (206)), some none, none, none, some none, none, none, none, none, none, some none, none, none, none]))
def LM_11 : List gE := LM_10 ++ [.inr (0, 80, [])]
def LM_12 : List gE := LM_11.set 201 (.inl (7, [some (some (202)), some (some (203)), some (some (204)), none, some (some (205)), some (some (206)), some (some (207)), none, none, some none, none, none, none, none, none, some none, none, none, none]))
def LM_13 : List gE := LM_12 ++ [.inr (0, 5, [])]
def LM_14 : List gE := LM_13.set 201 (.inl (7, [some (some (202)), some (some (203)), some (some (204)), none, some (some (205)), some (some (206)), some (some (207)), none, none, some (some (208)), none, none, none, none, none, some none, none, none, none]))
def LM_15 : List gE := LM_14 ++ [.inr (0, 320, [])]
def LM_16 : List gE := LM_15.set 201 (.inl (7, [some (some (202)), some (some (203)), some (some (204)), none, some (some (205)), some (some (206)), some (some (207)), none, none, some (some (208)), none, none, none, none, none, some (some (209)), none, none, none]))
set_option maxHeartbeats 4000000 in
set_option maxRecDepth 100000 in
theorem c_newModel {l : Launch} {ad : Nat → Nat} {X : gX} (hz : ∀ k, X 201 k = nI 0) : Ct l (SL LM0 ad) yX7_init cX7_init 2 none 1 20 [.ref 201] X 8 5107 (pC 202 ad LM_16 (fun X' => (∀ i, i < 201 → X' i = X i) ∧ (∀ k, X' 201 k = nI 0) ∧ RM X' g0 ∧ ∀ j, X' 206 j = nI 0)) := by
  refine Ct.of [.ref 201, .null] 1 (by decide +kernel) rfl (Nat.le_of_ble_eq_true rfl) (fun F hl hC hRt hin => ?_)
  subst hl
  have hi := hin rfl
  refine g_aload_0 hC dX7_init_0 (pc' := 1) rfl ?_
  refine g_objInit hC ol_X7 ⟨(Nat.le_of_ble_eq_true rfl), (Nat.le_of_ble_eq_true rfl)⟩ (Nat.le_of_ble_eq_true rfl) dX7_init_1 (pc' := 4) rfl ?_
  refine g_aload_0 hC dX7_init_4 (pc' := 5) rfl ?_
  refine g_sipush hC dX7_init_5 (pc' := 8) kc_sipush_470 rfl ?_
  refine g_newa_int hC (Nat.le_of_ble_eq_true rfl) (N := 202) (by decide +kernel) (by omega) (l' := LM_1) rfl ⟨Or.inl (show (201 : Nat) < 202 by omega), ⟨Or.inl (show (201 : Nat) < 202 by omega), trivial⟩⟩ ⟨(Nat.le_of_ble_eq_true rfl), (Nat.le_of_ble_eq_true rfl)⟩ dX7_init_8 (pc' := 10) rfl (fun ad1 hq1 => ?_)
  have ag1 : ∀ i, i < 202 ∨ 5000 ≤ i → ad1 i = ad i := fun i hi => hq1 i (by omega)
  refine g_putR hC (l' := LM_2) hi ff_X7_7 rfl (Nat.le_of_ble_eq_true rfl) (by decide +kernel) rfl dX7_init_10 (pc' := 13) rfl ?_
  refine g_aload_0 hC dX7_init_13 (pc' := 14) rfl ?_
  refine g_sipush hC dX7_init_14 (pc' := 17) kc_sipush_470 rfl ?_
  refine g_newa_int hC (Nat.le_of_ble_eq_true rfl) (N := 203) (by decide +kernel) (by omega) (l' := LM_3) rfl ⟨Or.inl (show (201 : Nat) < 203 by omega), ⟨Or.inl (show (201 : Nat) < 203 by omega), trivial⟩⟩ ⟨(Nat.le_of_ble_eq_true rfl), (Nat.le_of_ble_eq_true rfl)⟩ dX7_init_17 (pc' := 19) rfl (fun ad2 hq2 => ?_)
  have ag2 : ∀ i, i < 202 ∨ 5000 ≤ i → ad2 i = ad i := fun i hi => (hq2 i (by omega)).trans (ag1 i hi)
  refine g_putR hC (l' := LM_4) hi ff_X7_13 rfl (Nat.le_of_ble_eq_true rfl) (by decide +kernel) rfl dX7_init_19 (pc' := 22) rfl ?_
  refine g_aload_0 hC dX7_init_22 (pc' := 23) rfl ?_
  refine g_sipush hC dX7_init_23 (pc' := 26) kc_sipush_2820 rfl ?_
  refine g_newa_int hC (Nat.le_of_ble_eq_true rfl) (N := 204) (by decide +kernel) (by omega) (l' := LM_5) rfl ⟨Or.inl (show (201 : Nat) < 204 by omega), ⟨Or.inl (show (201 : Nat) < 204 by omega), trivial⟩⟩ ⟨(Nat.le_of_ble_eq_true rfl), (Nat.le_of_ble_eq_true rfl)⟩ dX7_init_26 (pc' := 28) rfl (fun ad3 hq3 => ?_)
  have ag3 : ∀ i, i < 202 ∨ 5000 ≤ i → ad3 i = ad i := fun i hi => (hq3 i (by omega)).trans (ag2 i hi)
  refine g_putR hC (l' := LM_6) hi ff_X7_16 rfl (Nat.le_of_ble_eq_true rfl) (by decide +kernel) rfl dX7_init_28 (pc' := 31) rfl ?_
  refine g_aload_0 hC dX7_init_31 (pc' := 32) rfl ?_
  refine g_sipush hC dX7_init_32 (pc' := 35) kc_sipush_940 rfl ?_
  refine g_newa_int hC (Nat.le_of_ble_eq_true rfl) (N := 205) (by decide +kernel) (by omega) (l' := LM_7) rfl ⟨Or.inl (show (201 : Nat) < 205 by omega), ⟨Or.inl (show (201 : Nat) < 205 by omega), trivial⟩⟩ ⟨(Nat.le_of_ble_eq_true rfl), (Nat.le_of_ble_eq_true rfl)⟩ dX7_init_35 (pc' := 37) rfl (fun ad4 hq4 => ?_)
  have ag4 : ∀ i, i < 202 ∨ 5000 ≤ i → ad4 i = ad i := fun i hi => (hq4 i (by omega)).trans (ag3 i hi)
  refine g_putR hC (l' := LM_8) hi ff_X7_19 rfl (Nat.le_of_ble_eq_true rfl) (by decide +kernel) rfl dX7_init_37 (pc' := 40) rfl ?_
  refine g_aload_0 hC dX7_init_40 (pc' := 41) rfl ?_
  refine g_iconst hC dX7_init_41 (pc' := 42) kc_iconst_2 rfl ?_
  refine g_newa_boolean hC (Nat.le_of_ble_eq_true rfl) (N := 206) (by decide +kernel) (by omega) (l' := LM_9) rfl ⟨Or.inl (show (201 : Nat) < 206 by omega), ⟨Or.inl (show (201 : Nat) < 206 by omega), trivial⟩⟩ ⟨(Nat.le_of_ble_eq_true rfl), (Nat.le_of_ble_eq_true rfl)⟩ dX7_init_42 (pc' := 44) rfl (fun ad5 hq5 => ?_)
  have ag5 : ∀ i, i < 202 ∨ 5000 ≤ i → ad5 i = ad i := fun i hi => (hq5 i (by omega)).trans (ag4 i hi)
  refine g_putR hC (l' := LM_10) hi ff_X7_22 rfl (Nat.le_of_ble_eq_true rfl) (by decide +kernel) rfl dX7_init_44 (pc' := 47) rfl ?_
  refine g_aload_0 hC dX7_init_47 (pc' := 48) rfl ?_
  refine g_bipush hC dX7_init_48 (pc' := 50) kc_bipush_80 rfl ?_
  refine g_newa_int hC (Nat.le_of_ble_eq_true rfl) (N := 207) (by decide +kernel) (by omega) (l' := LM_11) rfl ⟨Or.inl (show (201 : Nat) < 207 by omega), ⟨Or.inl (show (201 : Nat) < 207 by omega), trivial⟩⟩ ⟨(Nat.le_of_ble_eq_true rfl), (Nat.le_of_ble_eq_true rfl)⟩ dX7_init_50 (pc' := 52) rfl (fun ad6 hq6 => ?_)
  have ag6 : ∀ i, i < 202 ∨ 5000 ≤ i → ad6 i = ad i := fun i hi => (hq6 i (by omega)).trans (ag5 i hi)
  refine g_putR hC (l' := LM_12) hi ff_X7_26 rfl (Nat.le_of_ble_eq_true rfl) (by decide +kernel) rfl dX7_init_52 (pc' := 55) rfl ?_
  refine g_aload_0 hC dX7_init_55 (pc' := 56) rfl ?_
  refine g_iconst hC dX7_init_56 (pc' := 57) kc_iconst_5 rfl ?_
  refine g_newa_int hC (Nat.le_of_ble_eq_true rfl) (N := 208) (by decide +kernel) (by omega) (l' := LM_13) rfl ⟨Or.inl (show (201 : Nat) < 208 by omega), ⟨Or.inl (show (201 : Nat) < 208 by omega), trivial⟩⟩ ⟨(Nat.le_of_ble_eq_true rfl), (Nat.le_of_ble_eq_true rfl)⟩ dX7_init_57 (pc' := 59) rfl (fun ad7 hq7 => ?_)
  have ag7 : ∀ i, i < 202 ∨ 5000 ≤ i → ad7 i = ad i := fun i hi => (hq7 i (by omega)).trans (ag6 i hi)
  refine g_putR hC (l' := LM_14) hi ff_X7_29 rfl (Nat.le_of_ble_eq_true rfl) (by decide +kernel) rfl dX7_init_59 (pc' := 62) rfl ?_
  refine g_aload_0 hC dX7_init_62 (pc' := 63) rfl ?_
  refine g_sipush hC dX7_init_63 (pc' := 66) kc_sipush_320 rfl ?_
  refine g_newa_int hC (Nat.le_of_ble_eq_true rfl) (N := 209) (by decide +kernel) (by omega) (l' := LM_15) rfl ⟨Or.inl (show (201 : Nat) < 209 by omega), ⟨Or.inl (show (201 : Nat) < 209 by omega), trivial⟩⟩ ⟨(Nat.le_of_ble_eq_true rfl), (Nat.le_of_ble_eq_true rfl)⟩ dX7_init_66 (pc' := 68) rfl (fun ad8 hq8 => ?_)
  have ag8 : ∀ i, i < 202 ∨ 5000 ≤ i → ad8 i = ad i := fun i hi => (hq8 i (by omega)).trans (ag7 i hi)
  refine g_putR hC (l' := LM_16) hi ff_X7_32 rfl (Nat.le_of_ble_eq_true rfl) (by decide +kernel) rfl dX7_init_68 (pc' := 71) rfl ?_
  refine g_aload_0 hC dX7_init_71 (pc' := 72) rfl ?_
  refine g_getR hC fl_X7_7 (sl_at rfl) rfl dX7_init_72 (pc' := 75) rfl ?_
  refine g_iconst hC dX7_init_75 (pc' := 76) kc_iconst_0 rfl ?_
  refine g_iconst hC dX7_init_76 (pc' := 77) kc_iconst_2 rfl ?_
  refine g_iast hC (sl_at rfl) (Nat.le_of_ble_eq_true rfl) (by omega) dX7_init_77 (pc' := 78) rfl ?_
  refine g_aload_0 hC dX7_init_78 (pc' := 79) rfl ?_
  refine g_getR hC fl_X7_7 (sl_at rfl) rfl dX7_init_79 (pc' := 82) rfl ?_
  refine g_iconst hC dX7_init_82 (pc' := 83) kc_iconst_1 rfl ?_
  refine g_iconst hC dX7_init_83 (pc' := 84) kc_iconst_1 rfl ?_
  refine g_iast hC (sl_at rfl) (Nat.le_of_ble_eq_true rfl) (by omega) dX7_init_84 (pc' := 85) rfl ?_
  refine g_aload_0 hC dX7_init_85 (pc' := 86) rfl ?_
  refine g_getR hC fl_X7_7 (sl_at rfl) rfl dX7_init_86 (pc' := 89) rfl ?_
  refine g_iconst hC dX7_init_89 (pc' := 90) kc_iconst_3 rfl ?_
  refine g_iconst hC dX7_init_90 (pc' := 91) kc_iconst_4 rfl ?_
  refine g_iast hC (sl_at rfl) (Nat.le_of_ble_eq_true rfl) (by omega) dX7_init_91 (pc' := 92) rfl ?_
  refine g_iconst hC dX7_init_92 (pc' := 93) kc_iconst_0 rfl ?_
  refine g_istore_1 hC dX7_init_93 (pc' := 94) rfl (Nat.le_of_ble_eq_true rfl) rfl ?_
  refine g_iload_1 hC dX7_init_94 (pc' := 95) rfl ?_
  refine g_iconst hC dX7_init_95 (pc' := 96) kc_iconst_5 rfl ?_
  refine g_icmpN_ge hC dX7_init_96 (pc' := 99) (tgt := 125) (by decide) rfl (by omega) (by omega) (fun h96 => by omega) (fun h96 => ?_)
  refine g_aload_0 hC dX7_init_99 (pc' := 100) rfl ?_
  refine g_getR hC fl_X7_7 (sl_at rfl) rfl dX7_init_100 (pc' := 103) rfl ?_
  refine g_iconst hC dX7_init_103 (pc' := 104) kc_iconst_4 rfl ?_
  refine g_iload_1 hC dX7_init_104 (pc' := 105) rfl ?_
  refine g_iaddN hC dX7_init_105 (pc' := 106) rfl ?_
  refine g_iconst hC dX7_init_106 (pc' := 107) kc_iconst_1 rfl ?_
  refine g_iast hC (sl_at rfl) (Nat.le_of_ble_eq_true rfl) (by omega) dX7_init_107 (pc' := 108) rfl ?_
  refine g_aload_0 hC dX7_init_108 (pc' := 109) rfl ?_
  refine g_getR hC fl_X7_7 (sl_at rfl) rfl dX7_init_109 (pc' := 112) rfl ?_
  refine g_bipush hC dX7_init_112 (pc' := 114) kc_bipush_9 rfl ?_
  refine g_iload_1 hC dX7_init_114 (pc' := 115) rfl ?_
  refine g_iaddN hC dX7_init_115 (pc' := 116) rfl ?_
  refine g_bipush hC dX7_init_116 (pc' := 118) kc_bipush_60 rfl ?_
  refine g_iast hC (sl_at rfl) (Nat.le_of_ble_eq_true rfl) (by omega) dX7_init_118 (pc' := 119) rfl ?_
  refine g_iinc_1 hC dX7_init_119 (pc' := 122) rfl (Nat.le_of_ble_eq_true rfl) rfl (nI_inc _ _ kc_iinc_1) ?_
  refine g_goto hC dX7_init_122 (tgt := 94) (by decide) ?_
  refine g_iload_1 hC dX7_init_94 (pc' := 95) rfl ?_
  refine g_iconst hC dX7_init_95 (pc' := 96) kc_iconst_5 rfl ?_
  refine g_icmpN_ge hC dX7_init_96 (pc' := 99) (tgt := 125) (by decide) rfl (by omega) (by omega) (fun h96 => by omega) (fun h96 => ?_)
  refine g_aload_0 hC dX7_init_99 (pc' := 100) rfl ?_
  refine g_getR hC fl_X7_7 (sl_at rfl) rfl dX7_init_100 (pc' := 103) rfl ?_
  refine g_iconst hC dX7_init_103 (pc' := 104) kc_iconst_4 rfl ?_
  refine g_iload_1 hC dX7_init_104 (pc' := 105) rfl ?_
  refine g_iaddN hC dX7_init_105 (pc' := 106) rfl ?_
  refine g_iconst hC dX7_init_106 (pc' := 107) kc_iconst_1 rfl ?_
  refine g_iast hC (sl_at rfl) (Nat.le_of_ble_eq_true rfl) (by omega) dX7_init_107 (pc' := 108) rfl ?_
  refine g_aload_0 hC dX7_init_108 (pc' := 109) rfl ?_
  refine g_getR hC fl_X7_7 (sl_at rfl) rfl dX7_init_109 (pc' := 112) rfl ?_
  refine g_bipush hC dX7_init_112 (pc' := 114) kc_bipush_9 rfl ?_
  refine g_iload_1 hC dX7_init_114 (pc' := 115) rfl ?_
  refine g_iaddN hC dX7_init_115 (pc' := 116) rfl ?_
  refine g_bipush hC dX7_init_116 (pc' := 118) kc_bipush_60 rfl ?_
  refine g_iast hC (sl_at rfl) (Nat.le_of_ble_eq_true rfl) (by omega) dX7_init_118 (pc' := 119) rfl ?_
  refine g_iinc_1 hC dX7_init_119 (pc' := 122) rfl (Nat.le_of_ble_eq_true rfl) rfl (nI_inc _ _ kc_iinc_1) ?_
  refine g_goto hC dX7_init_122 (tgt := 94) (by decide) ?_
  refine g_iload_1 hC dX7_init_94 (pc' := 95) rfl ?_
  refine g_iconst hC dX7_init_95 (pc' := 96) kc_iconst_5 rfl ?_
  refine g_icmpN_ge hC dX7_init_96 (pc' := 99) (tgt := 125) (by decide) rfl (by omega) (by omega) (fun h96 => by omega) (fun h96 => ?_)
  refine g_aload_0 hC dX7_init_99 (pc' := 100) rfl ?_
  refine g_getR hC fl_X7_7 (sl_at rfl) rfl dX7_init_100 (pc' := 103) rfl ?_
  refine g_iconst hC dX7_init_103 (pc' := 104) kc_iconst_4 rfl ?_
  refine g_iload_1 hC dX7_init_104 (pc' := 105) rfl ?_
  refine g_iaddN hC dX7_init_105 (pc' := 106) rfl ?_
  refine g_iconst hC dX7_init_106 (pc' := 107) kc_iconst_1 rfl ?_
  refine g_iast hC (sl_at rfl) (Nat.le_of_ble_eq_true rfl) (by omega) dX7_init_107 (pc' := 108) rfl ?_
  refine g_aload_0 hC dX7_init_108 (pc' := 109) rfl ?_
  refine g_getR hC fl_X7_7 (sl_at rfl) rfl dX7_init_109 (pc' := 112) rfl ?_
  refine g_bipush hC dX7_init_112 (pc' := 114) kc_bipush_9 rfl ?_
  refine g_iload_1 hC dX7_init_114 (pc' := 115) rfl ?_
  refine g_iaddN hC dX7_init_115 (pc' := 116) rfl ?_
  refine g_bipush hC dX7_init_116 (pc' := 118) kc_bipush_60 rfl ?_
  refine g_iast hC (sl_at rfl) (Nat.le_of_ble_eq_true rfl) (by omega) dX7_init_118 (pc' := 119) rfl ?_
  refine g_iinc_1 hC dX7_init_119 (pc' := 122) rfl (Nat.le_of_ble_eq_true rfl) rfl (nI_inc _ _ kc_iinc_1) ?_
  refine g_goto hC dX7_init_122 (tgt := 94) (by decide) ?_
  refine g_iload_1 hC dX7_init_94 (pc' := 95) rfl ?_
  refine g_iconst hC dX7_init_95 (pc' := 96) kc_iconst_5 rfl ?_
  refine g_icmpN_ge hC dX7_init_96 (pc' := 99) (tgt := 125) (by decide) rfl (by omega) (by omega) (fun h96 => by omega) (fun h96 => ?_)
  refine g_aload_0 hC dX7_init_99 (pc' := 100) rfl ?_
  refine g_getR hC fl_X7_7 (sl_at rfl) rfl dX7_init_100 (pc' := 103) rfl ?_
  refine g_iconst hC dX7_init_103 (pc' := 104) kc_iconst_4 rfl ?_
  refine g_iload_1 hC dX7_init_104 (pc' := 105) rfl ?_
  refine g_iaddN hC dX7_init_105 (pc' := 106) rfl ?_
  refine g_iconst hC dX7_init_106 (pc' := 107) kc_iconst_1 rfl ?_
  refine g_iast hC (sl_at rfl) (Nat.le_of_ble_eq_true rfl) (by omega) dX7_init_107 (pc' := 108) rfl ?_
  refine g_aload_0 hC dX7_init_108 (pc' := 109) rfl ?_
  refine g_getR hC fl_X7_7 (sl_at rfl) rfl dX7_init_109 (pc' := 112) rfl ?_
  refine g_bipush hC dX7_init_112 (pc' := 114) kc_bipush_9 rfl ?_
  refine g_iload_1 hC dX7_init_114 (pc' := 115) rfl ?_
  refine g_iaddN hC dX7_init_115 (pc' := 116) rfl ?_
  refine g_bipush hC dX7_init_116 (pc' := 118) kc_bipush_60 rfl ?_
  refine g_iast hC (sl_at rfl) (Nat.le_of_ble_eq_true rfl) (by omega) dX7_init_118 (pc' := 119) rfl ?_
  refine g_iinc_1 hC dX7_init_119 (pc' := 122) rfl (Nat.le_of_ble_eq_true rfl) rfl (nI_inc _ _ kc_iinc_1) ?_
  refine g_goto hC dX7_init_122 (tgt := 94) (by decide) ?_
  refine g_iload_1 hC dX7_init_94 (pc' := 95) rfl ?_
  refine g_iconst hC dX7_init_95 (pc' := 96) kc_iconst_5 rfl ?_
  refine g_icmpN_ge hC dX7_init_96 (pc' := 99) (tgt := 125) (by decide) rfl (by omega) (by omega) (fun h96 => by omega) (fun h96 => ?_)
  refine g_aload_0 hC dX7_init_99 (pc' := 100) rfl ?_
  refine g_getR hC fl_X7_7 (sl_at rfl) rfl dX7_init_100 (pc' := 103) rfl ?_
  refine g_iconst hC dX7_init_103 (pc' := 104) kc_iconst_4 rfl ?_
  refine g_iload_1 hC dX7_init_104 (pc' := 105) rfl ?_
  refine g_iaddN hC dX7_init_105 (pc' := 106) rfl ?_
  refine g_iconst hC dX7_init_106 (pc' := 107) kc_iconst_1 rfl ?_
  refine g_iast hC (sl_at rfl) (Nat.le_of_ble_eq_true rfl) (by omega) dX7_init_107 (pc' := 108) rfl ?_
  refine g_aload_0 hC dX7_init_108 (pc' := 109) rfl ?_
  refine g_getR hC fl_X7_7 (sl_at rfl) rfl dX7_init_109 (pc' := 112) rfl ?_
  refine g_bipush hC dX7_init_112 (pc' := 114) kc_bipush_9 rfl ?_
  refine g_iload_1 hC dX7_init_114 (pc' := 115) rfl ?_
  refine g_iaddN hC dX7_init_115 (pc' := 116) rfl ?_
  refine g_bipush hC dX7_init_116 (pc' := 118) kc_bipush_60 rfl ?_
  refine g_iast hC (sl_at rfl) (Nat.le_of_ble_eq_true rfl) (by omega) dX7_init_118 (pc' := 119) rfl ?_
  refine g_iinc_1 hC dX7_init_119 (pc' := 122) rfl (Nat.le_of_ble_eq_true rfl) rfl (nI_inc _ _ kc_iinc_1) ?_
  refine g_goto hC dX7_init_122 (tgt := 94) (by decide) ?_
  refine g_iload_1 hC dX7_init_94 (pc' := 95) rfl ?_
  refine g_iconst hC dX7_init_95 (pc' := 96) kc_iconst_5 rfl ?_
  refine g_icmpN_ge hC dX7_init_96 (pc' := 99) (tgt := 125) (by decide) rfl (by omega) (by omega) (fun h96 => ?_) (fun h96 => by omega)
  refine g_vretC hC hRt dX7_init_125 rfl ag8 rfl ?_
  refine ⟨fun i hi => ?_, fun k => ?_, fun j hj => ?_, fun j => ?_⟩
  · repeat (first | rfl | rw [gu_ne i (by omega)] | rw [gz_ne i (by omega)])
  · repeat (first | rw [gu_ne 201 (by decide)] | rw [gz_ne 201 (by decide)])
    exact hz k
  · by_cases h14 : j < 14
    · have : j = 0 ∨ j = 1 ∨ j = 2 ∨ j = 3 ∨ j = 4 ∨ j = 5 ∨ j = 6 ∨ j = 7 ∨ j = 8 ∨ j = 9 ∨ j = 10 ∨ j = 11 ∨ j = 12 ∨ j = 13 := by omega
      rcases this with rfl | rfl | rfl | rfl | rfl | rfl | rfl | rfl | rfl | rfl | rfl | rfl | rfl | rfl
      all_goals
        repeat (first | rw [gu_at] | rw [gu_id (by decide)] | rw [gz_ne 202 (by decide)] | rw [gz_at])
        decide
    · have e : ar g0 j = nI 0 := by
        unfold ar g0
        repeat (first | rw [if_pos (by omega)] | rw [if_neg (by omega)])
      rw [e]
      repeat (first | rw [gu_id (by omega)] | rw [gz_ne 202 (by decide)] | rw [gz_at])
  · repeat (first | rw [gu_ne 206 (by decide)] | rw [gz_ne 206 (by decide)] | rw [gz_at])
