theorem app_at {l0 m : List gE} {n k : Nat} {e : gE} (hn : l0.length = n) (h : m[k]? = some e) : (l0 ++ m)[n + k]? = some e := by
  rw [List.getElem?_append_right (by omega), show n + k - l0.length = k by omega]
  exact h
theorem app_set {l0 m : List gE} {n k : Nat} {e : gE} (hn : l0.length = n) : (l0 ++ m).set (n + k) e = l0 ++ m.set k e := by
  rw [List.set_append_right _ _ (by omega), show n + k - l0.length = k by omega]
/-- the first state -/
def g0 (j : Nat) : Nat := if j = 0 then 2 else if j = 1 then 1 else if j = 2 then 0 else if j = 3 then 5 else if j < 4 then 0 else if j < 9 then 1 else if j < 14 then 60 else 0
theorem g0_c (t f : Nat) : cnt g0 t f = 0 := by
  unfold cnt g0
  repeat (first | rw [if_neg (by omega)])
theorem SS0 {X : gX} {b t : Nat} (ht : t < 5) (h0 : X b 0 = nI 1) (h1 : X b 1 = nI 60) (h2 : X b 2 = nI 0) (hc : ∀ k, X (b + 1) k = nI 0) : SS X b g0 t := by
  have e0 : g0 (4 + t) = 1 := by unfold g0; repeat (first | rw [if_pos (by omega)] | rw [if_neg (by omega)])
  have e1 : g0 (9 + t) = 60 := by unfold g0; repeat (first | rw [if_pos (by omega)] | rw [if_neg (by omega)])
  have e2 : g0 (14 + t) = 0 := by unfold g0; repeat (first | rw [if_pos (by omega)] | rw [if_neg (by omega)])
  refine ⟨⟨by rw [e0]; exact h0, by rw [e1]; exact h1, by rw [e2]; exact h2⟩, fun f _ => by rw [g0_c]; exact hc f, fun f k _ _ hk => by rw [g0_c] at hk; omega⟩
def shB (n : Nat) : List gE := [.inl (3, [none, none, none, some (some (n + 1)), some (some (n + 2))]), .inr (0, 10, []), .inr (0, 80, [])]

set_option maxHeartbeats 4000000 in
set_option maxRecDepth 100000 in
theorem c_newSheet {l : Launch} {l0 l1 l2 : List gE} {n : Nat} {ad : Nat → Nat} {X : gX}  (hn : l0.length = n) (h1 : l0 ++ [.inl (3, [none, none, none, some none, some none])] = l1) (h2 : l0 ++ shB n = l2) : Ct l (SL l1 ad) yX3_init cX3_init 1 none 1 20 [.ref n] X 2 90 (pC (n + 1) ad l2 (fun X' => (∀ i, i < n → X' i = X i) ∧ ∀ t, t < 5 → SS X' n g0 t)) := by
  subst h1; subst h2
  refine Ct.of [.ref n] 0 (by decide +kernel) rfl (Nat.le_of_ble_eq_true rfl) (fun F hl hC hRt hin => ?_)
  subst hl
  have hi := hin rfl
  refine g_aload_0 hC dX3_init_0 (pc' := 1) rfl ?_
  refine g_objInit hC ol_X3 ⟨(Nat.le_of_ble_eq_true rfl), (Nat.le_of_ble_eq_true rfl)⟩ (Nat.le_of_ble_eq_true rfl) dX3_init_1 (pc' := 4) rfl ?_
  refine g_aload_0 hC dX3_init_4 (pc' := 5) rfl ?_
  refine g_iconst hC dX3_init_5 (pc' := 6) kc_iconst_1 rfl ?_
  refine g_putI hC fl_X3_9 (sl_at (app_at (k := 0) hn rfl)) rfl rfl rfl dX3_init_6 (pc' := 9) rfl ?_
  refine g_aload_0 hC dX3_init_9 (pc' := 10) rfl ?_
  refine g_bipush hC dX3_init_10 (pc' := 12) kc_bipush_60 rfl ?_
  refine g_putI hC fl_X3_15 (sl_at (app_at (k := 0) hn rfl)) rfl rfl rfl dX3_init_12 (pc' := 15) rfl ?_
  refine g_aload_0 hC dX3_init_15 (pc' := 16) rfl ?_
  refine g_iconst hC dX3_init_16 (pc' := 17) kc_iconst_0 rfl ?_
  refine g_putI hC fl_X3_18 (sl_at (app_at (k := 0) hn rfl)) rfl rfl rfl dX3_init_17 (pc' := 20) rfl ?_
  refine g_aload_0 hC dX3_init_20 (pc' := 21) rfl ?_
  refine g_bipush hC dX3_init_21 (pc' := 23) kc_bipush_10 rfl ?_
  refine g_newa_int hC (Nat.le_of_ble_eq_true rfl) (N := n + 1) (by rw [List.length_append, hn] <;> rfl) (l' := l0 ++ [.inl (3, [none, none, none, some none, some none]), .inr (0, 10, [])]) (List.append_assoc _ _ _) ⟨show n < n + 1 by omega, ⟨show n < n + 1 by omega, trivial⟩⟩ ⟨(Nat.le_of_ble_eq_true rfl), (Nat.le_of_ble_eq_true rfl)⟩ dX3_init_23 (pc' := 25) rfl (fun ad1 hq1 => ?_)
  have ag1 : ∀ i, i < n + 1 → ad1 i = ad i := fun i hi => hq1 i (by omega)
  refine g_putR hC (l' := l0 ++ [.inl (3, [none, none, none, some (some (n + 1)), some none]), .inr (0, 10, [])]) hi ff_X3_21 (app_at (k := 0) hn rfl) (Nat.le_of_ble_eq_true rfl) (by rw [List.length_append, hn]; simp only [List.length_cons, List.length_nil]; omega) (app_set (k := 0) hn) dX3_init_25 (pc' := 28) rfl ?_
  refine g_aload_0 hC dX3_init_28 (pc' := 29) rfl ?_
  refine g_bipush hC dX3_init_29 (pc' := 31) kc_bipush_80 rfl ?_
  refine g_newa_int hC (Nat.le_of_ble_eq_true rfl) (N := n + 2) (by rw [List.length_append, hn] <;> rfl) (l' := l0 ++ [.inl (3, [none, none, none, some (some (n + 1)), some none]), .inr (0, 10, []), .inr (0, 80, [])]) (List.append_assoc _ _ _) ⟨show n < n + 2 by omega, ⟨show n < n + 2 by omega, trivial⟩⟩ ⟨(Nat.le_of_ble_eq_true rfl), (Nat.le_of_ble_eq_true rfl)⟩ dX3_init_31 (pc' := 33) rfl (fun ad2 hq2 => ?_)
  have ag2 : ∀ i, i < n + 1 → ad2 i = ad i := fun i hi => (hq2 i (by omega)).trans (ag1 i hi)
  refine g_putR hC (l' := l0 ++ [.inl (3, [none, none, none, some (some (n + 1)), some (some (n + 2))]), .inr (0, 10, []), .inr (0, 80, [])]) hi ff_X3_25 (app_at (k := 0) hn rfl) (Nat.le_of_ble_eq_true rfl) (by rw [List.length_append, hn]; simp only [List.length_cons, List.length_nil]; omega) (app_set (k := 0) hn) dX3_init_33 (pc' := 36) rfl ?_
  refine g_vretC hC hRt dX3_init_36 rfl ag2 rfl ?_
  refine ⟨fun i hi => ?_, fun t ht => SS0 ht ?_ ?_ ?_ (fun k => ?_)⟩
  · rw [gz_ne i (by omega), gz_ne i (by omega), gu_ne i (by omega), gu_ne i (by omega), gu_ne i (by omega)]
  · rw [gz_ne n (by omega), gz_ne n (by omega), gu_id (by decide), gu_id (by decide), gu_at]
  · rw [gz_ne n (by omega), gz_ne n (by omega), gu_id (by decide), gu_at]
  · rw [gz_ne n (by omega), gz_ne n (by omega), gu_at]
  · rw [gz_ne (n + 1) (by omega), gz_at]

def stB (n : Nat) : List gE := [.inl (4, [some (some (n + 1)), some (some (n + 2)), none, none, some (some (n + 3))]), .inr (4, 5, [n + 4, n + 7, n + 10, n + 13, n + 16]), .inr (0, 2, []), .inr (0, 5, [])] ++ (shB (n + 4) ++ (shB (n + 7) ++ (shB (n + 10) ++ (shB (n + 13) ++ shB (n + 16)))))

set_option maxHeartbeats 4000000 in
set_option maxRecDepth 100000 in
theorem c_newState {l : Launch} {l0 l1 l2 : List gE} {n : Nat} {ad : Nat → Nat} {X : gX}  (hn : l0.length = n) (h1 : l0 ++ [.inl (4, [some none, some none, none, none, some none])] = l1) (h2 : l0 ++ stB n = l2) : Ct l (SL l1 ad) yX4_init cX4_init 2 none 2 40 [.ref n] X 18 487 (pC (n + 1) ad l2 (fun X' => (∀ i, i < n → X' i = X i) ∧ RS X' n g0)) := by
  subst h1; subst h2
  refine Ct.of [.ref n, .null] 1 (by decide +kernel) rfl (Nat.le_of_ble_eq_true rfl) (fun F hl hC hRt hin => ?_)
  subst hl
  have hi := hin rfl
  refine g_aload_0 hC dX4_init_0 (pc' := 1) rfl ?_
  refine g_objInit hC ol_X4 ⟨(Nat.le_of_ble_eq_true rfl), (Nat.le_of_ble_eq_true rfl)⟩ (Nat.le_of_ble_eq_true rfl) dX4_init_1 (pc' := 4) rfl ?_
  refine g_aload_0 hC dX4_init_4 (pc' := 5) rfl ?_
  refine g_iconst hC dX4_init_5 (pc' := 6) kc_iconst_5 rfl ?_
  refine g_newq4 hC cq_X4_9 (Nat.le_of_ble_eq_true rfl) (N := n + 1) (by rw [List.length_append, hn] <;> rfl) (l' := l0 ++ [.inl (4, [some none, some none, none, none, some none]), .inr (4, 5, [])]) (List.append_assoc _ _ _) ⟨show n < n + 1 by omega, ⟨show n < n + 1 by omega, trivial⟩⟩ ⟨(Nat.le_of_ble_eq_true rfl), (Nat.le_of_ble_eq_true rfl)⟩ dX4_init_6 (pc' := 9) rfl (fun ad1 hq1 => ?_)
  have ag1 : ∀ i, i < n + 1 → ad1 i = ad i := fun i hi => hq1 i (by omega)
  refine g_putR hC (l' := l0 ++ [.inl (4, [some (some (n + 1)), some none, none, none, some none]), .inr (4, 5, [])]) hi ff_X4_11 (app_at (k := 0) hn rfl) (Nat.le_of_ble_eq_true rfl) (by rw [List.length_append, hn]; simp only [List.length_cons, List.length_nil]; omega) (app_set (k := 0) hn) dX4_init_9 (pc' := 12) rfl ?_
  refine g_aload_0 hC dX4_init_12 (pc' := 13) rfl ?_
  refine g_iconst hC dX4_init_13 (pc' := 14) kc_iconst_2 rfl ?_
  refine g_newa_int hC (Nat.le_of_ble_eq_true rfl) (N := n + 2) (by rw [List.length_append, hn] <;> rfl) (l' := l0 ++ [.inl (4, [some (some (n + 1)), some none, none, none, some none]), .inr (4, 5, []), .inr (0, 2, [])]) (List.append_assoc _ _ _) ⟨show n < n + 2 by omega, ⟨show n < n + 2 by omega, trivial⟩⟩ ⟨(Nat.le_of_ble_eq_true rfl), (Nat.le_of_ble_eq_true rfl)⟩ dX4_init_14 (pc' := 16) rfl (fun ad2 hq2 => ?_)
  have ag2 : ∀ i, i < n + 1 → ad2 i = ad i := fun i hi => (hq2 i (by omega)).trans (ag1 i hi)
  refine g_dup hC dX4_init_16 (pc' := 17) rfl rfl ?_
  refine g_iconst hC dX4_init_17 (pc' := 18) kc_iconst_0 rfl ?_
  refine g_iconst hC dX4_init_18 (pc' := 19) kc_iconst_2 rfl ?_
  refine g_iast hC (sl_at (app_at (k := 2) hn rfl)) (Nat.le_of_ble_eq_true rfl) (by omega) dX4_init_19 (pc' := 20) rfl ?_
  refine g_dup hC dX4_init_20 (pc' := 21) rfl rfl ?_
  refine g_iconst hC dX4_init_21 (pc' := 22) kc_iconst_1 rfl ?_
  refine g_iconst hC dX4_init_22 (pc' := 23) kc_iconst_1 rfl ?_
  refine g_iast hC (sl_at (app_at (k := 2) hn rfl)) (Nat.le_of_ble_eq_true rfl) (by omega) dX4_init_23 (pc' := 24) rfl ?_
  refine g_putR hC (l' := l0 ++ [.inl (4, [some (some (n + 1)), some (some (n + 2)), none, none, some none]), .inr (4, 5, []), .inr (0, 2, [])]) hi ff_X4_17 (app_at (k := 0) hn rfl) (Nat.le_of_ble_eq_true rfl) (by rw [List.length_append, hn]; simp only [List.length_cons, List.length_nil]; omega) (app_set (k := 0) hn) dX4_init_24 (pc' := 27) rfl ?_
  refine g_aload_0 hC dX4_init_27 (pc' := 28) rfl ?_
  refine g_iconst hC dX4_init_28 (pc' := 29) kc_iconst_0 rfl ?_
  refine g_putI hC fl_X4_21 (sl_at (app_at (k := 0) hn rfl)) rfl rfl rfl dX4_init_29 (pc' := 32) rfl ?_
  refine g_aload_0 hC dX4_init_32 (pc' := 33) rfl ?_
  refine g_iconst hC dX4_init_33 (pc' := 34) kc_iconst_4 rfl ?_
  refine g_putI hC fl_X4_25 (sl_at (app_at (k := 0) hn rfl)) rfl rfl rfl dX4_init_34 (pc' := 37) rfl ?_
  refine g_aload_0 hC dX4_init_37 (pc' := 38) rfl ?_
  refine g_iconst hC dX4_init_38 (pc' := 39) kc_iconst_5 rfl ?_
  refine g_newa_int hC (Nat.le_of_ble_eq_true rfl) (N := n + 3) (by rw [List.length_append, hn] <;> rfl) (l' := l0 ++ [.inl (4, [some (some (n + 1)), some (some (n + 2)), none, none, some none]), .inr (4, 5, []), .inr (0, 2, []), .inr (0, 5, [])]) (List.append_assoc _ _ _) ⟨show n < n + 3 by omega, ⟨show n < n + 3 by omega, trivial⟩⟩ ⟨(Nat.le_of_ble_eq_true rfl), (Nat.le_of_ble_eq_true rfl)⟩ dX4_init_39 (pc' := 41) rfl (fun ad3 hq3 => ?_)
  have ag3 : ∀ i, i < n + 1 → ad3 i = ad i := fun i hi => (hq3 i (by omega)).trans (ag2 i hi)
  refine g_putR hC (l' := l0 ++ [.inl (4, [some (some (n + 1)), some (some (n + 2)), none, none, some (some (n + 3))]), .inr (4, 5, []), .inr (0, 2, []), .inr (0, 5, [])]) hi ff_X4_28 (app_at (k := 0) hn rfl) (Nat.le_of_ble_eq_true rfl) (by rw [List.length_append, hn]; simp only [List.length_cons, List.length_nil]; omega) (app_set (k := 0) hn) dX4_init_41 (pc' := 44) rfl ?_
  refine g_iconst hC dX4_init_44 (pc' := 45) kc_iconst_0 rfl ?_
  refine g_istore_1 hC dX4_init_45 (pc' := 46) rfl (Nat.le_of_ble_eq_true rfl) rfl ?_
  refine g_iload_1 hC dX4_init_46 (pc' := 47) rfl ?_
  refine g_iconst hC dX4_init_47 (pc' := 48) kc_iconst_5 rfl ?_
  refine g_icmpN_ge hC dX4_init_48 (pc' := 51) (tgt := 70) (by decide) rfl (by omega) (by omega) (fun h48 => by omega) (fun h48 => ?_)
  refine g_aload_0 hC dX4_init_51 (pc' := 52) rfl ?_
  refine g_getR hC fl_X4_11 (sl_at (app_at (k := 0) hn rfl)) rfl dX4_init_52 (pc' := 55) rfl ?_
  refine g_iload_1 hC dX4_init_55 (pc' := 56) rfl ?_
  obtain ⟨Xb, hXb⟩ : ∃ Y : gX, Y = gz (gu (gu (gu (gu (gz (gz X (n + 1)) (n + 2)) (n + 2) 0 ((nI 2))) (n + 2) 1 ((nI 1))) n 2 ((nI 0))) n 3 ((nI 4))) (n + 3) := ⟨_, rfl⟩
  rw [← hXb]
  refine g_new hC fn_X4_9 (N := n + 4) (by rw [List.length_append, hn] <;> rfl) (l' := l0 ++ [.inl (4, [some (some (n + 1)), some (some (n + 2)), none, none, some (some (n + 3))]), .inr (4, 5, []), .inr (0, 2, []), .inr (0, 5, []), .inl (3, [none, none, none, some none, some none])]) (List.append_assoc _ _ _) ⟨show n < n + 4 by omega, ⟨show n + 1 < n + 4 by omega, trivial⟩⟩ ⟨(Nat.le_of_ble_eq_true rfl), (Nat.le_of_ble_eq_true rfl)⟩ dX4_init_56 (pc' := 59) rfl (fun ad4 hq4 => ?_)
  have ag4 : ∀ i, i < n + 1 → ad4 i = ad i := fun i hi => (hq4 i (by omega)).trans (ag3 i hi)
  refine g_dup hC dX4_init_59 (pc' := 60) rfl rfl ?_
  refine g_callCN hC (l' := l0 ++ [.inl (4, [some (some (n + 1)), some (some (n + 2)), none, none, some (some (n + 3))]), .inr (4, 5, []), .inr (0, 2, []), .inr (0, 5, []), .inl (3, [none, none, none, some (some (n + 5)), some (some (n + 6))]), .inr (0, 10, []), .inr (0, 80, [])]) (c_newSheet (l0 := l0 ++ [.inl (4, [some (some (n + 1)), some (some (n + 2)), none, none, some (some (n + 3))]), .inr (4, 5, []), .inr (0, 2, []), .inr (0, 5, [])]) (n := n + 4) (by rw [List.length_append, hn] <;> rfl) (List.append_assoc _ _ _) (List.append_assoc _ _ _)) mc_X4_31 ⟨(Nat.le_of_ble_eq_true rfl), (Nat.le_of_ble_eq_true rfl)⟩ (Nat.le_of_ble_eq_true rfl) dX4_init_60 (pc' := 63) rfl ⟨(Nat.le_of_ble_eq_true rfl), (Nat.le_of_ble_eq_true rfl)⟩ ⟨show n < n + 5 by omega, ⟨show n + 4 < n + 5 by omega, ⟨show n + 1 < n + 5 by omega, trivial⟩⟩⟩ (fun ad5 X5 hq5 hx5 => ?_)
  have ag5 : ∀ i, i < n + 1 → ad5 i = ad i := fun i hi => (hq5 i (by omega)).trans (ag4 i hi)
  have hs0 := hx5.2
  have he0 : ∀ i, i < n + 4 → X5 i = Xb i := fun i hi => (hx5.1 i hi).trans (gz_ne i (by omega))
  refine g_astR4 hC (l' := l0 ++ [.inl (4, [some (some (n + 1)), some (some (n + 2)), none, none, some (some (n + 3))]), .inr (4, 5, [n + 4]), .inr (0, 2, []), .inr (0, 5, []), .inl (3, [none, none, none, some (some (n + 5)), some (some (n + 6))]), .inr (0, 10, []), .inr (0, 80, [])]) (app_at (k := 1) hn rfl) rfl (by omega) (Nat.le_of_ble_eq_true rfl) (app_at (k := 4) hn rfl) (app_set (k := 1) hn) dX4_init_63 (pc' := 64) rfl ?_
  refine g_iinc_1 hC dX4_init_64 (pc' := 67) rfl (Nat.le_of_ble_eq_true rfl) rfl (nI_inc _ _ kc_iinc_1) ?_
  refine g_goto hC dX4_init_67 (tgt := 46) (by decide) ?_
  refine g_iload_1 hC dX4_init_46 (pc' := 47) rfl ?_
  refine g_iconst hC dX4_init_47 (pc' := 48) kc_iconst_5 rfl ?_
  refine g_icmpN_ge hC dX4_init_48 (pc' := 51) (tgt := 70) (by decide) rfl (by omega) (by omega) (fun h48 => by omega) (fun h48 => ?_)
  refine g_aload_0 hC dX4_init_51 (pc' := 52) rfl ?_
  refine g_getR hC fl_X4_11 (sl_at (app_at (k := 0) hn rfl)) rfl dX4_init_52 (pc' := 55) rfl ?_
  refine g_iload_1 hC dX4_init_55 (pc' := 56) rfl ?_
  refine g_new hC fn_X4_9 (N := n + 7) (by rw [List.length_append, hn] <;> rfl) (l' := l0 ++ [.inl (4, [some (some (n + 1)), some (some (n + 2)), none, none, some (some (n + 3))]), .inr (4, 5, [n + 4]), .inr (0, 2, []), .inr (0, 5, []), .inl (3, [none, none, none, some (some (n + 5)), some (some (n + 6))]), .inr (0, 10, []), .inr (0, 80, []), .inl (3, [none, none, none, some none, some none])]) (List.append_assoc _ _ _) ⟨show n < n + 7 by omega, ⟨show n + 1 < n + 7 by omega, trivial⟩⟩ ⟨(Nat.le_of_ble_eq_true rfl), (Nat.le_of_ble_eq_true rfl)⟩ dX4_init_56 (pc' := 59) rfl (fun ad6 hq6 => ?_)
  have ag6 : ∀ i, i < n + 1 → ad6 i = ad i := fun i hi => (hq6 i (by omega)).trans (ag5 i hi)
  refine g_dup hC dX4_init_59 (pc' := 60) rfl rfl ?_
  refine g_callCN hC (l' := l0 ++ [.inl (4, [some (some (n + 1)), some (some (n + 2)), none, none, some (some (n + 3))]), .inr (4, 5, [n + 4]), .inr (0, 2, []), .inr (0, 5, []), .inl (3, [none, none, none, some (some (n + 5)), some (some (n + 6))]), .inr (0, 10, []), .inr (0, 80, []), .inl (3, [none, none, none, some (some (n + 8)), some (some (n + 9))]), .inr (0, 10, []), .inr (0, 80, [])]) (c_newSheet (l0 := l0 ++ [.inl (4, [some (some (n + 1)), some (some (n + 2)), none, none, some (some (n + 3))]), .inr (4, 5, [n + 4]), .inr (0, 2, []), .inr (0, 5, []), .inl (3, [none, none, none, some (some (n + 5)), some (some (n + 6))]), .inr (0, 10, []), .inr (0, 80, [])]) (n := n + 7) (by rw [List.length_append, hn] <;> rfl) (List.append_assoc _ _ _) (List.append_assoc _ _ _)) mc_X4_31 ⟨(Nat.le_of_ble_eq_true rfl), (Nat.le_of_ble_eq_true rfl)⟩ (Nat.le_of_ble_eq_true rfl) dX4_init_60 (pc' := 63) rfl ⟨(Nat.le_of_ble_eq_true rfl), (Nat.le_of_ble_eq_true rfl)⟩ ⟨show n < n + 8 by omega, ⟨show n + 7 < n + 8 by omega, ⟨show n + 1 < n + 8 by omega, trivial⟩⟩⟩ (fun ad7 X7 hq7 hx7 => ?_)
  have ag7 : ∀ i, i < n + 1 → ad7 i = ad i := fun i hi => (hq7 i (by omega)).trans (ag6 i hi)
  have hs1 := hx7.2
  have he1 : ∀ i, i < n + 7 → X7 i = X5 i := fun i hi => (hx7.1 i hi).trans (gz_ne i (by omega))
  refine g_astR4 hC (l' := l0 ++ [.inl (4, [some (some (n + 1)), some (some (n + 2)), none, none, some (some (n + 3))]), .inr (4, 5, [n + 4, n + 7]), .inr (0, 2, []), .inr (0, 5, []), .inl (3, [none, none, none, some (some (n + 5)), some (some (n + 6))]), .inr (0, 10, []), .inr (0, 80, []), .inl (3, [none, none, none, some (some (n + 8)), some (some (n + 9))]), .inr (0, 10, []), .inr (0, 80, [])]) (app_at (k := 1) hn rfl) rfl (by omega) (Nat.le_of_ble_eq_true rfl) (app_at (k := 7) hn rfl) (app_set (k := 1) hn) dX4_init_63 (pc' := 64) rfl ?_
  refine g_iinc_1 hC dX4_init_64 (pc' := 67) rfl (Nat.le_of_ble_eq_true rfl) rfl (nI_inc _ _ kc_iinc_1) ?_
  refine g_goto hC dX4_init_67 (tgt := 46) (by decide) ?_
  refine g_iload_1 hC dX4_init_46 (pc' := 47) rfl ?_
  refine g_iconst hC dX4_init_47 (pc' := 48) kc_iconst_5 rfl ?_
  refine g_icmpN_ge hC dX4_init_48 (pc' := 51) (tgt := 70) (by decide) rfl (by omega) (by omega) (fun h48 => by omega) (fun h48 => ?_)
  refine g_aload_0 hC dX4_init_51 (pc' := 52) rfl ?_
  refine g_getR hC fl_X4_11 (sl_at (app_at (k := 0) hn rfl)) rfl dX4_init_52 (pc' := 55) rfl ?_
  refine g_iload_1 hC dX4_init_55 (pc' := 56) rfl ?_
  refine g_new hC fn_X4_9 (N := n + 10) (by rw [List.length_append, hn] <;> rfl) (l' := l0 ++ [.inl (4, [some (some (n + 1)), some (some (n + 2)), none, none, some (some (n + 3))]), .inr (4, 5, [n + 4, n + 7]), .inr (0, 2, []), .inr (0, 5, []), .inl (3, [none, none, none, some (some (n + 5)), some (some (n + 6))]), .inr (0, 10, []), .inr (0, 80, []), .inl (3, [none, none, none, some (some (n + 8)), some (some (n + 9))]), .inr (0, 10, []), .inr (0, 80, []), .inl (3, [none, none, none, some none, some none])]) (List.append_assoc _ _ _) ⟨show n < n + 10 by omega, ⟨show n + 1 < n + 10 by omega, trivial⟩⟩ ⟨(Nat.le_of_ble_eq_true rfl), (Nat.le_of_ble_eq_true rfl)⟩ dX4_init_56 (pc' := 59) rfl (fun ad8 hq8 => ?_)
  have ag8 : ∀ i, i < n + 1 → ad8 i = ad i := fun i hi => (hq8 i (by omega)).trans (ag7 i hi)
  refine g_dup hC dX4_init_59 (pc' := 60) rfl rfl ?_
  refine g_callCN hC (l' := l0 ++ [.inl (4, [some (some (n + 1)), some (some (n + 2)), none, none, some (some (n + 3))]), .inr (4, 5, [n + 4, n + 7]), .inr (0, 2, []), .inr (0, 5, []), .inl (3, [none, none, none, some (some (n + 5)), some (some (n + 6))]), .inr (0, 10, []), .inr (0, 80, []), .inl (3, [none, none, none, some (some (n + 8)), some (some (n + 9))]), .inr (0, 10, []), .inr (0, 80, []), .inl (3, [none, none, none, some (some (n + 11)), some (some (n + 12))]), .inr (0, 10, []), .inr (0, 80, [])]) (c_newSheet (l0 := l0 ++ [.inl (4, [some (some (n + 1)), some (some (n + 2)), none, none, some (some (n + 3))]), .inr (4, 5, [n + 4, n + 7]), .inr (0, 2, []), .inr (0, 5, []), .inl (3, [none, none, none, some (some (n + 5)), some (some (n + 6))]), .inr (0, 10, []), .inr (0, 80, []), .inl (3, [none, none, none, some (some (n + 8)), some (some (n + 9))]), .inr (0, 10, []), .inr (0, 80, [])]) (n := n + 10) (by rw [List.length_append, hn] <;> rfl) (List.append_assoc _ _ _) (List.append_assoc _ _ _)) mc_X4_31 ⟨(Nat.le_of_ble_eq_true rfl), (Nat.le_of_ble_eq_true rfl)⟩ (Nat.le_of_ble_eq_true rfl) dX4_init_60 (pc' := 63) rfl ⟨(Nat.le_of_ble_eq_true rfl), (Nat.le_of_ble_eq_true rfl)⟩ ⟨show n < n + 11 by omega, ⟨show n + 10 < n + 11 by omega, ⟨show n + 1 < n + 11 by omega, trivial⟩⟩⟩ (fun ad9 X9 hq9 hx9 => ?_)
  have ag9 : ∀ i, i < n + 1 → ad9 i = ad i := fun i hi => (hq9 i (by omega)).trans (ag8 i hi)
  have hs2 := hx9.2
  have he2 : ∀ i, i < n + 10 → X9 i = X7 i := fun i hi => (hx9.1 i hi).trans (gz_ne i (by omega))
  refine g_astR4 hC (l' := l0 ++ [.inl (4, [some (some (n + 1)), some (some (n + 2)), none, none, some (some (n + 3))]), .inr (4, 5, [n + 4, n + 7, n + 10]), .inr (0, 2, []), .inr (0, 5, []), .inl (3, [none, none, none, some (some (n + 5)), some (some (n + 6))]), .inr (0, 10, []), .inr (0, 80, []), .inl (3, [none, none, none, some (some (n + 8)), some (some (n + 9))]), .inr (0, 10, []), .inr (0, 80, []), .inl (3, [none, none, none, some (some (n + 11)), some (some (n + 12))]), .inr (0, 10, []), .inr (0, 80, [])]) (app_at (k := 1) hn rfl) rfl (by omega) (Nat.le_of_ble_eq_true rfl) (app_at (k := 10) hn rfl) (app_set (k := 1) hn) dX4_init_63 (pc' := 64) rfl ?_
  refine g_iinc_1 hC dX4_init_64 (pc' := 67) rfl (Nat.le_of_ble_eq_true rfl) rfl (nI_inc _ _ kc_iinc_1) ?_
  refine g_goto hC dX4_init_67 (tgt := 46) (by decide) ?_
  refine g_iload_1 hC dX4_init_46 (pc' := 47) rfl ?_
  refine g_iconst hC dX4_init_47 (pc' := 48) kc_iconst_5 rfl ?_
  refine g_icmpN_ge hC dX4_init_48 (pc' := 51) (tgt := 70) (by decide) rfl (by omega) (by omega) (fun h48 => by omega) (fun h48 => ?_)
  refine g_aload_0 hC dX4_init_51 (pc' := 52) rfl ?_
  refine g_getR hC fl_X4_11 (sl_at (app_at (k := 0) hn rfl)) rfl dX4_init_52 (pc' := 55) rfl ?_
  refine g_iload_1 hC dX4_init_55 (pc' := 56) rfl ?_
  refine g_new hC fn_X4_9 (N := n + 13) (by rw [List.length_append, hn] <;> rfl) (l' := l0 ++ [.inl (4, [some (some (n + 1)), some (some (n + 2)), none, none, some (some (n + 3))]), .inr (4, 5, [n + 4, n + 7, n + 10]), .inr (0, 2, []), .inr (0, 5, []), .inl (3, [none, none, none, some (some (n + 5)), some (some (n + 6))]), .inr (0, 10, []), .inr (0, 80, []), .inl (3, [none, none, none, some (some (n + 8)), some (some (n + 9))]), .inr (0, 10, []), .inr (0, 80, []), .inl (3, [none, none, none, some (some (n + 11)), some (some (n + 12))]), .inr (0, 10, []), .inr (0, 80, []), .inl (3, [none, none, none, some none, some none])]) (List.append_assoc _ _ _) ⟨show n < n + 13 by omega, ⟨show n + 1 < n + 13 by omega, trivial⟩⟩ ⟨(Nat.le_of_ble_eq_true rfl), (Nat.le_of_ble_eq_true rfl)⟩ dX4_init_56 (pc' := 59) rfl (fun ad10 hq10 => ?_)
  have ag10 : ∀ i, i < n + 1 → ad10 i = ad i := fun i hi => (hq10 i (by omega)).trans (ag9 i hi)
  refine g_dup hC dX4_init_59 (pc' := 60) rfl rfl ?_
  refine g_callCN hC (l' := l0 ++ [.inl (4, [some (some (n + 1)), some (some (n + 2)), none, none, some (some (n + 3))]), .inr (4, 5, [n + 4, n + 7, n + 10]), .inr (0, 2, []), .inr (0, 5, []), .inl (3, [none, none, none, some (some (n + 5)), some (some (n + 6))]), .inr (0, 10, []), .inr (0, 80, []), .inl (3, [none, none, none, some (some (n + 8)), some (some (n + 9))]), .inr (0, 10, []), .inr (0, 80, []), .inl (3, [none, none, none, some (some (n + 11)), some (some (n + 12))]), .inr (0, 10, []), .inr (0, 80, []), .inl (3, [none, none, none, some (some (n + 14)), some (some (n + 15))]), .inr (0, 10, []), .inr (0, 80, [])]) (c_newSheet (l0 := l0 ++ [.inl (4, [some (some (n + 1)), some (some (n + 2)), none, none, some (some (n + 3))]), .inr (4, 5, [n + 4, n + 7, n + 10]), .inr (0, 2, []), .inr (0, 5, []), .inl (3, [none, none, none, some (some (n + 5)), some (some (n + 6))]), .inr (0, 10, []), .inr (0, 80, []), .inl (3, [none, none, none, some (some (n + 8)), some (some (n + 9))]), .inr (0, 10, []), .inr (0, 80, []), .inl (3, [none, none, none, some (some (n + 11)), some (some (n + 12))]), .inr (0, 10, []), .inr (0, 80, [])]) (n := n + 13) (by rw [List.length_append, hn] <;> rfl) (List.append_assoc _ _ _) (List.append_assoc _ _ _)) mc_X4_31 ⟨(Nat.le_of_ble_eq_true rfl), (Nat.le_of_ble_eq_true rfl)⟩ (Nat.le_of_ble_eq_true rfl) dX4_init_60 (pc' := 63) rfl ⟨(Nat.le_of_ble_eq_true rfl), (Nat.le_of_ble_eq_true rfl)⟩ ⟨show n < n + 14 by omega, ⟨show n + 13 < n + 14 by omega, ⟨show n + 1 < n + 14 by omega, trivial⟩⟩⟩ (fun ad11 X11 hq11 hx11 => ?_)
  have ag11 : ∀ i, i < n + 1 → ad11 i = ad i := fun i hi => (hq11 i (by omega)).trans (ag10 i hi)
  have hs3 := hx11.2
  have he3 : ∀ i, i < n + 13 → X11 i = X9 i := fun i hi => (hx11.1 i hi).trans (gz_ne i (by omega))
  refine g_astR4 hC (l' := l0 ++ [.inl (4, [some (some (n + 1)), some (some (n + 2)), none, none, some (some (n + 3))]), .inr (4, 5, [n + 4, n + 7, n + 10, n + 13]), .inr (0, 2, []), .inr (0, 5, []), .inl (3, [none, none, none, some (some (n + 5)), some (some (n + 6))]), .inr (0, 10, []), .inr (0, 80, []), .inl (3, [none, none, none, some (some (n + 8)), some (some (n + 9))]), .inr (0, 10, []), .inr (0, 80, []), .inl (3, [none, none, none, some (some (n + 11)), some (some (n + 12))]), .inr (0, 10, []), .inr (0, 80, []), .inl (3, [none, none, none, some (some (n + 14)), some (some (n + 15))]), .inr (0, 10, []), .inr (0, 80, [])]) (app_at (k := 1) hn rfl) rfl (by omega) (Nat.le_of_ble_eq_true rfl) (app_at (k := 13) hn rfl) (app_set (k := 1) hn) dX4_init_63 (pc' := 64) rfl ?_
  refine g_iinc_1 hC dX4_init_64 (pc' := 67) rfl (Nat.le_of_ble_eq_true rfl) rfl (nI_inc _ _ kc_iinc_1) ?_
  refine g_goto hC dX4_init_67 (tgt := 46) (by decide) ?_
  refine g_iload_1 hC dX4_init_46 (pc' := 47) rfl ?_
  refine g_iconst hC dX4_init_47 (pc' := 48) kc_iconst_5 rfl ?_
  refine g_icmpN_ge hC dX4_init_48 (pc' := 51) (tgt := 70) (by decide) rfl (by omega) (by omega) (fun h48 => by omega) (fun h48 => ?_)
  refine g_aload_0 hC dX4_init_51 (pc' := 52) rfl ?_
  refine g_getR hC fl_X4_11 (sl_at (app_at (k := 0) hn rfl)) rfl dX4_init_52 (pc' := 55) rfl ?_
  refine g_iload_1 hC dX4_init_55 (pc' := 56) rfl ?_
  refine g_new hC fn_X4_9 (N := n + 16) (by rw [List.length_append, hn] <;> rfl) (l' := l0 ++ [.inl (4, [some (some (n + 1)), some (some (n + 2)), none, none, some (some (n + 3))]), .inr (4, 5, [n + 4, n + 7, n + 10, n + 13]), .inr (0, 2, []), .inr (0, 5, []), .inl (3, [none, none, none, some (some (n + 5)), some (some (n + 6))]), .inr (0, 10, []), .inr (0, 80, []), .inl (3, [none, none, none, some (some (n + 8)), some (some (n + 9))]), .inr (0, 10, []), .inr (0, 80, []), .inl (3, [none, none, none, some (some (n + 11)), some (some (n + 12))]), .inr (0, 10, []), .inr (0, 80, []), .inl (3, [none, none, none, some (some (n + 14)), some (some (n + 15))]), .inr (0, 10, []), .inr (0, 80, []), .inl (3, [none, none, none, some none, some none])]) (List.append_assoc _ _ _) ⟨show n < n + 16 by omega, ⟨show n + 1 < n + 16 by omega, trivial⟩⟩ ⟨(Nat.le_of_ble_eq_true rfl), (Nat.le_of_ble_eq_true rfl)⟩ dX4_init_56 (pc' := 59) rfl (fun ad12 hq12 => ?_)
  have ag12 : ∀ i, i < n + 1 → ad12 i = ad i := fun i hi => (hq12 i (by omega)).trans (ag11 i hi)
  refine g_dup hC dX4_init_59 (pc' := 60) rfl rfl ?_
  refine g_callCN hC (l' := l0 ++ [.inl (4, [some (some (n + 1)), some (some (n + 2)), none, none, some (some (n + 3))]), .inr (4, 5, [n + 4, n + 7, n + 10, n + 13]), .inr (0, 2, []), .inr (0, 5, []), .inl (3, [none, none, none, some (some (n + 5)), some (some (n + 6))]), .inr (0, 10, []), .inr (0, 80, []), .inl (3, [none, none, none, some (some (n + 8)), some (some (n + 9))]), .inr (0, 10, []), .inr (0, 80, []), .inl (3, [none, none, none, some (some (n + 11)), some (some (n + 12))]), .inr (0, 10, []), .inr (0, 80, []), .inl (3, [none, none, none, some (some (n + 14)), some (some (n + 15))]), .inr (0, 10, []), .inr (0, 80, []), .inl (3, [none, none, none, some (some (n + 17)), some (some (n + 18))]), .inr (0, 10, []), .inr (0, 80, [])]) (c_newSheet (l0 := l0 ++ [.inl (4, [some (some (n + 1)), some (some (n + 2)), none, none, some (some (n + 3))]), .inr (4, 5, [n + 4, n + 7, n + 10, n + 13]), .inr (0, 2, []), .inr (0, 5, []), .inl (3, [none, none, none, some (some (n + 5)), some (some (n + 6))]), .inr (0, 10, []), .inr (0, 80, []), .inl (3, [none, none, none, some (some (n + 8)), some (some (n + 9))]), .inr (0, 10, []), .inr (0, 80, []), .inl (3, [none, none, none, some (some (n + 11)), some (some (n + 12))]), .inr (0, 10, []), .inr (0, 80, []), .inl (3, [none, none, none, some (some (n + 14)), some (some (n + 15))]), .inr (0, 10, []), .inr (0, 80, [])]) (n := n + 16) (by rw [List.length_append, hn] <;> rfl) (List.append_assoc _ _ _) (List.append_assoc _ _ _)) mc_X4_31 ⟨(Nat.le_of_ble_eq_true rfl), (Nat.le_of_ble_eq_true rfl)⟩ (Nat.le_of_ble_eq_true rfl) dX4_init_60 (pc' := 63) rfl ⟨(Nat.le_of_ble_eq_true rfl), (Nat.le_of_ble_eq_true rfl)⟩ ⟨show n < n + 17 by omega, ⟨show n + 16 < n + 17 by omega, ⟨show n + 1 < n + 17 by omega, trivial⟩⟩⟩ (fun ad13 X13 hq13 hx13 => ?_)
  have ag13 : ∀ i, i < n + 1 → ad13 i = ad i := fun i hi => (hq13 i (by omega)).trans (ag12 i hi)
  have hs4 := hx13.2
  have he4 : ∀ i, i < n + 16 → X13 i = X11 i := fun i hi => (hx13.1 i hi).trans (gz_ne i (by omega))
  refine g_astR4 hC (l' := l0 ++ [.inl (4, [some (some (n + 1)), some (some (n + 2)), none, none, some (some (n + 3))]), .inr (4, 5, [n + 4, n + 7, n + 10, n + 13, n + 16]), .inr (0, 2, []), .inr (0, 5, []), .inl (3, [none, none, none, some (some (n + 5)), some (some (n + 6))]), .inr (0, 10, []), .inr (0, 80, []), .inl (3, [none, none, none, some (some (n + 8)), some (some (n + 9))]), .inr (0, 10, []), .inr (0, 80, []), .inl (3, [none, none, none, some (some (n + 11)), some (some (n + 12))]), .inr (0, 10, []), .inr (0, 80, []), .inl (3, [none, none, none, some (some (n + 14)), some (some (n + 15))]), .inr (0, 10, []), .inr (0, 80, []), .inl (3, [none, none, none, some (some (n + 17)), some (some (n + 18))]), .inr (0, 10, []), .inr (0, 80, [])]) (app_at (k := 1) hn rfl) rfl (by omega) (Nat.le_of_ble_eq_true rfl) (app_at (k := 16) hn rfl) (app_set (k := 1) hn) dX4_init_63 (pc' := 64) rfl ?_
  refine g_iinc_1 hC dX4_init_64 (pc' := 67) rfl (Nat.le_of_ble_eq_true rfl) rfl (nI_inc _ _ kc_iinc_1) ?_
  refine g_goto hC dX4_init_67 (tgt := 46) (by decide) ?_
  refine g_iload_1 hC dX4_init_46 (pc' := 47) rfl ?_
  refine g_iconst hC dX4_init_47 (pc' := 48) kc_iconst_5 rfl ?_
  refine g_icmpN_ge hC dX4_init_48 (pc' := 51) (tgt := 70) (by decide) rfl (by omega) (by omega) (fun h48 => ?_) (fun h48 => by omega)
  refine g_vretC hC hRt dX4_init_70 rfl ag13 rfl ?_
  have hb : ∀ i, i < n + 4 → X13 i = Xb i := fun i hi => (he4 i (by omega)).trans ((he3 i (by omega)).trans ((he2 i (by omega)).trans ((he1 i (by omega)).trans (he0 i (by omega)))))
  refine ⟨fun i hi => ?_, ⟨?_, ?_⟩, ?_, fun t ht => ?_⟩
  · rw [hb i (by omega), hXb]; repeat (first | rw [gu_ne i (by omega)] | rw [gz_ne i (by omega)])
  · rw [hb _ (by omega), hXb]; rw [gz_ne _ (by omega), gu_ne _ (by omega), gu_ne _ (by omega), gu_id (by decide), gu_at]; rfl
  · rw [hb _ (by omega), hXb]; rw [gz_ne _ (by omega), gu_ne _ (by omega), gu_ne _ (by omega), gu_at]; rfl
  · rw [hb _ (by omega), hXb]; rw [gz_ne _ (by omega)]; exact ⟨(gu_id (by decide)).trans gu_at, gu_at⟩
  · match t, ht with
    | 0, _ => exact (show SS X13 (n + 4) g0 0 from (((((hs0 0 (by decide)).of (he1 _ (by omega)) (he1 _ (by omega)) (he1 _ (by omega))).of (he2 _ (by omega)) (he2 _ (by omega)) (he2 _ (by omega))).of (he3 _ (by omega)) (he3 _ (by omega)) (he3 _ (by omega))).of (he4 _ (by omega)) (he4 _ (by omega)) (he4 _ (by omega))))
    | 1, _ => exact (show SS X13 (n + 7) g0 1 from ((((hs1 1 (by decide)).of (he2 _ (by omega)) (he2 _ (by omega)) (he2 _ (by omega))).of (he3 _ (by omega)) (he3 _ (by omega)) (he3 _ (by omega))).of (he4 _ (by omega)) (he4 _ (by omega)) (he4 _ (by omega))))
    | 2, _ => exact (show SS X13 (n + 10) g0 2 from (((hs2 2 (by decide)).of (he3 _ (by omega)) (he3 _ (by omega)) (he3 _ (by omega))).of (he4 _ (by omega)) (he4 _ (by omega)) (he4 _ (by omega))))
    | 3, _ => exact (show SS X13 (n + 13) g0 3 from ((hs3 3 (by decide)).of (he4 _ (by omega)) (he4 _ (by omega)) (he4 _ (by omega))))
    | 4, _ => exact (show SS X13 (n + 16) g0 4 from (hs4 4 (by decide)))
