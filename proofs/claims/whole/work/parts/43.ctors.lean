theorem app_at {l0 m : List gE} {n k : Nat} {e : gE} (hn : l0.length = n) (h : m[k]? = some e) : (l0 ++ m)[n + k]? = some e := by
  rw [List.getElem?_append_right (by omega), show n + k - l0.length = k by omega]
  exact h
theorem app_set {l0 m : List gE} {n k : Nat} {e : gE} (hn : l0.length = n) : (l0 ++ m).set (n + k) e = l0 ++ m.set k e := by
  rw [List.set_append_right _ _ (by omega), show n + k - l0.length = k by omega]
/-- the first state -/
def g0 (j : Nat) : Nat := if j = 0 then 2 else if j = 1 then 1 else if j = 2 then 0 else if j = 3 then 5 else if j < 4 then 0 else if j < 9 then 1 else if j < 14 then 60 else 0
theorem g0_c (t f : Nat) : cnt g0 t f = 0 := by
  unfold cnt g0
  repeat (first | rw [if_neg (by omega)])
theorem SS0 {X : gX} {b t : Nat} (ht : t < 5) (h0 : X b 0 = nI 1) (h1 : X b 1 = nI 60) (h2 : X b 2 = nI 0) (hc : ∀ k, X (b + 1) k = nI 0) : SS X b g0 t := by
  have e0 : g0 (4 + t) = 1 := by unfold g0; simp; omega
  have e1 : g0 (9 + t) = 60 := by unfold g0; simp; omega
  have e2 : g0 (14 + t) = 0 := by unfold g0; simp; omega
  refine ⟨⟨by rw [e0]; exact h0, by rw [e1]; exact h1, by rw [e2]; exact h2⟩, fun f _ => by rw [g0_c]; exact hc f, fun f k _ _ hk => by rw [g0_c] at hk; omega⟩
def shB (n : Nat) : List gE := [.inl (3, [none, none, none, some (some (n + 1)), some (some (n + 2))]), .inr (0, 10, []), .inr (0, 80, [])]

set_option maxHeartbeats 4000000 in
set_option maxRecDepth 100000 in
theorem c_newSheet {l : Launch} {l0 l1 l2 : List gE} {n : Nat} {ad : Nat → Nat} {X : gX}  (hn : l0.length = n) (h1 : l0 ++ [.inl (3, [none, none, none, some none, some none])] = l1) (h2 : l0 ++ shB n = l2) : Ct l (SL l1 ad) yX3_init cX3_init 1 none 1 20 [.ref n] X 2 90 (pC (n + 1) ad l2 (fun X' => (∀ i, i < n → X' i = X i) ∧ ∀ t, t < 5 → SS X' n g0 t)) := by
  subst h1; subst h2
  refine Ct.of [.ref n] 0 (by decide +kernel) rfl (Nat.le_of_ble_eq_true rfl) (fun F hl hC hRt hin => ?_)
  subst hl
  have hi := hin rfl
  refine g_aload_0 hC dX3_init_0 (pc' := 1) rfl ?_
  refine g_objInit hC ol_X3 ⟨(Nat.le_of_ble_eq_true rfl), (Nat.le_of_ble_eq_true rfl)⟩ (Nat.le_of_ble_eq_true rfl) dX3_init_1 (pc' := 4) rfl ?_
  refine g_aload_0 hC dX3_init_4 (pc' := 5) rfl ?_
  refine g_iconst hC dX3_init_5 (pc' := 6) kc_iconst_1 rfl ?_
  refine g_putI hC fl_X3_9 (sl_at (app_at (k := 0) hn rfl)) rfl rfl rfl dX3_init_6 (pc' := 9) rfl ?_
  refine g_aload_0 hC dX3_init_9 (pc' := 10) rfl ?_
  refine g_bipush hC dX3_init_10 (pc' := 12) kc_bipush_60 rfl ?_
  refine g_putI hC fl_X3_15 (sl_at (app_at (k := 0) hn rfl)) rfl rfl rfl dX3_init_12 (pc' := 15) rfl ?_
  refine g_aload_0 hC dX3_init_15 (pc' := 16) rfl ?_
  refine g_iconst hC dX3_init_16 (pc' := 17) kc_iconst_0 rfl ?_
  refine g_putI hC fl_X3_18 (sl_at (app_at (k := 0) hn rfl)) rfl rfl rfl dX3_init_17 (pc' := 20) rfl ?_
  refine g_aload_0 hC dX3_init_20 (pc' := 21) rfl ?_
  refine g_bipush hC dX3_init_21 (pc' := 23) kc_bipush_10 rfl ?_
  refine g_newa_int hC (Nat.le_of_ble_eq_true rfl) (by rw [List.length_append, hn]; rfl) (l' := l0 ++ [.inl (3, [none, none, none, some none, some none]), .inr (0, 10, [])]) (List.append_assoc _ _ _) ⟨by omega, ⟨by omega, trivial⟩⟩ ⟨(Nat.le_of_ble_eq_true rfl), (Nat.le_of_ble_eq_true rfl)⟩ dX3_init_23 (pc' := 25) rfl (fun ad1 hq1 => ?_)
  have ag1 : ∀ i, i < n + 1 → ad1 i = ad i := fun i hi => hq1 i (by omega)
  refine g_putR hC (l' := l0 ++ [.inl (3, [none, none, none, some (some (n + 1)), some none]), .inr (0, 10, [])]) hi ff_X3_21 (app_at (k := 0) hn rfl) (by decide) (by rw [List.length_append, hn]; simp only [List.length_cons, List.length_nil]; omega) (app_set (k := 0) hn) dX3_init_25 (pc' := 28) rfl ?_
  refine g_aload_0 hC dX3_init_28 (pc' := 29) rfl ?_
  refine g_bipush hC dX3_init_29 (pc' := 31) kc_bipush_80 rfl ?_
  refine g_newa_int hC (Nat.le_of_ble_eq_true rfl) (by rw [List.length_append, hn]; rfl) (l' := l0 ++ [.inl (3, [none, none, none, some (some (n + 1)), some none]), .inr (0, 10, []), .inr (0, 80, [])]) (List.append_assoc _ _ _) ⟨by omega, ⟨by omega, trivial⟩⟩ ⟨(Nat.le_of_ble_eq_true rfl), (Nat.le_of_ble_eq_true rfl)⟩ dX3_init_31 (pc' := 33) rfl (fun ad2 hq2 => ?_)
  have ag2 : ∀ i, i < n + 1 → ad2 i = ad i := fun i hi => (hq2 i (by omega)).trans (ag1 i hi)
  refine g_putR hC (l' := l0 ++ [.inl (3, [none, none, none, some (some (n + 1)), some (some (n + 2))]), .inr (0, 10, []), .inr (0, 80, [])]) hi ff_X3_25 (app_at (k := 0) hn rfl) (by decide) (by rw [List.length_append, hn]; simp only [List.length_cons, List.length_nil]; omega) (app_set (k := 0) hn) dX3_init_33 (pc' := 36) rfl ?_
  refine g_vretC hC hRt dX3_init_36 rfl ag2 rfl ?_
  refine ⟨fun i hi => ?_, fun t ht => SS0 ht ?_ ?_ ?_ (fun k => ?_)⟩
  · rw [gz_ne i (by omega), gz_ne i (by omega), gu_ne i (by omega), gu_ne i (by omega), gu_ne i (by omega)]
  · rw [gz_ne n (by omega), gz_ne n (by omega), gu_id (by decide), gu_id (by decide), gu_at]
  · rw [gz_ne n (by omega), gz_ne n (by omega), gu_id (by decide), gu_at]
  · rw [gz_ne n (by omega), gz_ne n (by omega), gu_at]
  · rw [gz_ne (n + 1) (by omega), gz_at]
