theorem in_X0 : Cond.instantiable RX0 2 ∈ TB := (tb_at 158 (by decide +kernel) (by decide +kernel))
theorem in_X1 : Cond.instantiable RX1 5 ∈ TB := (tb_at 192 (by decide +kernel) (by decide +kernel))
theorem in_X2 : Cond.instantiable RX2 2 ∈ TB := (tb_at 175 (by decide +kernel) (by decide +kernel))
theorem in_X3 : Cond.instantiable RX3 5 ∈ TB := (tb_at 71 (by decide +kernel) (by decide +kernel))
theorem in_X4 : Cond.instantiable RX4 5 ∈ TB := (tb_at 64 (by decide +kernel) (by decide +kernel))
theorem in_X5 : Cond.instantiable RX5 8 ∈ TB := (tb_at 122 (by decide +kernel) (by decide +kernel))
theorem in_X6 : Cond.instantiable RX6 8 ∈ TB := (tb_at 56 (by decide +kernel) (by decide +kernel))
theorem in_X7 : Cond.instantiable RX7 19 ∈ TB := (tb_at 630 (by decide +kernel) (by decide +kernel))
theorem ao_X3 : Cond.arrayOver (.object RX3) ∈ lw_tbl := List.mem_of_getElem? (i := 70) (by decide +kernel)
theorem ao_X4 : Cond.arrayOver (.object RX4) ∈ lw_tbl := List.mem_of_getElem? (i := 164) (by decide +kernel)
theorem nw_in : ∀ q ∈ NW, Cond.methodLinkNest q.1 q.2.1 q.2.2.1 q.2.2.2 ∈ lw_tbl := by
  intro q hq
  simp only [NW, List.mem_cons, List.not_mem_nil, or_false] at hq
  rcases hq with rfl | rfl | rfl | rfl | rfl | rfl | rfl | rfl | rfl
  · exact List.mem_of_getElem? (i := 72) (by decide +kernel)
  · exact List.mem_of_getElem? (i := 123) (by decide +kernel)
  · exact List.mem_of_getElem? (i := 176) (by decide +kernel)
  · exact List.mem_of_getElem? (i := 193) (by decide +kernel)
  · exact List.mem_of_getElem? (i := 294) (by decide +kernel)
  · exact List.mem_of_getElem? (i := 297) (by decide +kernel)
  · exact List.mem_of_getElem? (i := 300) (by decide +kernel)
  · exact List.mem_of_getElem? (i := 538) (by decide +kernel)
  · exact List.mem_of_getElem? (i := 590) (by decide +kernel)
theorem Inv_g0 : Inv g0 := by
  refine ⟨⟨⟨by decide, by decide⟩, by decide, by decide, by decide⟩, fun t ht => ?_, fun s f hs hf => by rw [g0_c]; decide, fun s f k hs hf hk => ?_, fun s f k hs hf hk => by rw [g0_c] at hk; exact absurd hk (Nat.not_lt_zero k)⟩
  · have : t = 0 ∨ t = 1 ∨ t = 2 ∨ t = 3 ∨ t = 4 := by omega
    rcases this with rfl | rfl | rfl | rfl | rfl <;> decide
  · unfold mk g0
    repeat (first | rw [if_neg (by omega)])
    decide
set_option maxHeartbeats 4000000 in
set_option maxRecDepth 100000 in
theorem lw_head {F : gF} {b L : Nat} {xs : Nat → Int32} (hC : Cx F RL cL_law 4 room_1) (hs : Sc F b L xs) (hL : L ≤ 2560) (hw : Lw F b) : G F (SL [] (fun _ => b)) (0, 0) (fun _ _ => 0) 0 [.ref 5000, .null, .null, .null] [] := by
  refine g_new hC fn_L_7 (N := 0) rfl (by decide) (l' := LC0) rfl ⟨Or.inr (Nat.le_refl _), trivial⟩ ⟨(Nat.le_of_ble_eq_true rfl), (Nat.le_of_ble_eq_true rfl)⟩ dL_law_0 (pc' := 3) rfl (fun ad1 hq1 => ?_)
  refine g_dup hC dL_law_3 (pc' := 4) rfl rfl ?_
  refine g_callC hC (l' := LC_28) c_newSheets mc_L_9 ⟨(Nat.le_of_ble_eq_true rfl), (Nat.le_of_ble_eq_true rfl)⟩ (Nat.le_of_ble_eq_true rfl) dL_law_4 (pc' := 7) rfl ⟨(Nat.le_of_ble_eq_true rfl), (Nat.le_of_ble_eq_true rfl)⟩ ⟨Or.inr (Nat.le_refl _), ⟨Or.inl (by decide), trivial⟩⟩ (fun ad2 X2 hq2 hx2 => ?_)
  refine g_astore_1 hC dL_law_7 (pc' := 8) rfl (Nat.le_of_ble_eq_true rfl) rfl ?_
  refine g_new hC fn_L_10 (N := 201) (by decide +kernel) (by decide) (l' := LM0) rfl ⟨Or.inr (Nat.le_refl _), ⟨Or.inl (by decide), trivial⟩⟩ ⟨(Nat.le_of_ble_eq_true rfl), (Nat.le_of_ble_eq_true rfl)⟩ dL_law_8 (pc' := 11) rfl (fun ad3 hq3 => ?_)
  refine g_dup hC dL_law_11 (pc' := 12) rfl rfl ?_
  refine g_callC hC (l' := LM_16) (c_newModel (fun k => gz_at)) mc_L_12 ⟨(Nat.le_of_ble_eq_true rfl), (Nat.le_of_ble_eq_true rfl)⟩ (Nat.le_of_ble_eq_true rfl) dL_law_12 (pc' := 15) rfl ⟨(Nat.le_of_ble_eq_true rfl), (Nat.le_of_ble_eq_true rfl)⟩ ⟨Or.inr (Nat.le_refl _), ⟨Or.inl (by decide), ⟨Or.inl (by decide), trivial⟩⟩⟩ (fun ad4 X4 hq4 hx4 => ?_)
  refine g_astore_2 hC dL_law_15 (pc' := 16) rfl (Nat.le_of_ble_eq_true rfl) rfl ?_
  refine g_iconst hC dL_law_16 (pc' := 17) kc_iconst_0 rfl ?_
  refine g_istore_3 hC dL_law_17 (pc' := 18) rfl (Nat.le_of_ble_eq_true rfl) rfl ?_
  refine lm_S ?_
  obtain ⟨r1, z1, z3, z4⟩ := hx2
  obtain ⟨e4, y1, r2, y2⟩ := hx4
  have e : ∀ i, i < 201 → X4 i = X2 i := fun i hi => (e4 i hi).trans (gz_ne i (by omega))
  have eH : ∀ i, i ≠ 43 → gH X4 i = X4 i := gH_ne
  refine lw_loop hC hs (by show ad4 5000 = b; rw [hq4 5000 (by omega), hq3 5000 (by omega), hq2 5000 (by omega), hq1 5000 (by omega)]) hL ⟨(Nat.le_of_ble_eq_true rfl), (Nat.le_of_ble_eq_true rfl)⟩ hw (L + 6) 0 (gH X4) (by decide) (by omega) ⟨g0, 0, fun _ _ => 0, fun _ => 0, 0, fun _ => false, fun _ _ => 0, ⟨⟨fun j hj => (congrFun (eH 202 (by decide)) j).trans (r2 j hj), (congrFun (eH 201 (by decide)) 3).trans (y1 3), by decide, fun i j hi => absurd hi (Nat.not_lt_zero i), (congrFun (eH 201 (by decide)) 8).trans ((y1 8).trans zI_f.symm)⟩, ⟨(congrFun (eH 201 (by decide)) 7).trans (y1 7), by decide, fun i hi => absurd hi (Nat.not_lt_zero i)⟩, fun t _ => ⟨(congrFun (eH 206 (by decide)) t).trans ((y2 t).trans zI_f.symm), fun h => absurd h Bool.false_ne_true⟩⟩, ⟨r1.of (fun i _ hi _ => (eH i (by omega)).trans (e i (by omega))), ⟨(congrFun ((eH 42 (by decide)).trans (e 42 (by decide))) 0).trans z1, by decide, fun j => j, fun j hj => ⟨hj, gH_at hj⟩, fun _ _ _ _ h => h, fun i hi => absurd hi (Nat.not_lt_zero i)⟩, ⟨(congrFun ((eH 160 (by decide)).trans (e 160 (by decide))) 0).trans z3, by decide, fun i hi => absurd hi (Nat.not_lt_zero i)⟩, fun t _ => ⟨((congrFun ((eH 159 (by decide)).trans (e 159 (by decide))) t).trans (z4 t)).trans zI_f.symm, fun h => absurd h Bool.false_ne_true⟩⟩, Inv_g0, fun i hi => absurd hi (Nat.not_lt_zero i), fun t _ h => absurd h Bool.false_ne_true⟩
set_option maxHeartbeats 4000000 in
theorem whole_start {p : Program} {e : Env} {s : State} {m : MethodId} {below : List Frame} {meth : Method} {c : Code} (l : Launch) (hflags : l.flags = flags0) {b L : Nat} {xs : Nat → Int32} (hL : L ≤ 2560) (C0 : lw_At p s m meth c b L xs) : W p l e room_1 s m #[Value.ref b] below meth c s.heap [] 0 0 (lw_Z below #[Value.ref b] s) (entryFrame m ([Value.ref b] : List Value).toArray 4) := by
  obtain ⟨hx, hb, hr, hml, hown, hts, hX, hbl, hlocks, hgv⟩ := id C0
  have htb : ∀ w ∈ TB, w.before #[Value.ref b] s = true := fun w hw => hts w (List.mem_filter.mp hw).1
  obtain ⟨c0, i0, hK0⟩ := u_known (C := RX0) (T := TX0) (N := 2) (n := 2) htb gw0 (htb _ in_X0)
  obtain ⟨c1, i1, hK1⟩ := u_known (C := RX1) (T := TX1) (N := 5) (n := 5) htb gw1 (htb _ in_X1)
  obtain ⟨c2, i2, hK2⟩ := u_known (C := RX2) (T := TX2) (N := 2) (n := 2) htb gw2 (htb _ in_X2)
  obtain ⟨c3, i3, hK3⟩ := u_known (C := RX3) (T := TX3) (N := 5) (n := 5) htb gw3 (htb _ in_X3)
  obtain ⟨c4, i4, hK4⟩ := u_known (C := RX4) (T := TX4) (N := 5) (n := 5) htb gw4 (htb _ in_X4)
  obtain ⟨c5, i5, hK5⟩ := u_known (C := RX5) (T := TX5) (N := 8) (n := 8) htb gw5 (htb _ in_X5)
  obtain ⟨c6, i6, hK6⟩ := u_known (C := RX6) (T := TX6) (N := 8) (n := 8) htb gw6 (htb _ in_X6)
  obtain ⟨c7, i7, hK7⟩ := u_known (C := RX7) (T := TX7) (N := 19) (n := 19) htb gw7 (htb _ in_X7)
  obtain ⟨a0, ka0, ca0, e01, e02, e03⟩ := Cond.arrayClass_spec (htb _ aw_int)
  obtain ⟨a1, ka1, ca1, e11, e12, e13⟩ := Cond.arrayClass_spec (htb _ aw_char)
  obtain ⟨a2, ka2, ca2, e21, e22, e23⟩ := Cond.arrayClass_spec (htb _ aw_boolean)
  have ao3 : va_AO RX3 s := hts _ ao_X3
  have ao4 : va_AO RX4 s := hts _ ao_X4
  obtain ⟨ca3, a3, ka3, e31, e32, e33, e34, e35⟩ := Cond.arrayOver_spec ao4
  obtain ⟨ca4, a4, ka4, e41, e42, e43, e44, e45⟩ := Cond.arrayOver_spec ao3
  obtain ⟨Γ, hΓ, z0, z1, z2, z3, z4⟩ : ∃ Γ : gL, (∀ (k : Nat) (q : vw_C), gCl[k]? = some q → u_Kn s q.1 q.2.1 q.2.2 (Γ.1.1 k) (Γ.1.2 k)) ∧ Γ.2 0 = a0 ∧ Γ.2 1 = a1 ∧ Γ.2 2 = a2 ∧ Γ.2 3 = a3 ∧ Γ.2 4 = a4 := by
    refine ⟨((fun k => if k = 0 then c0 else if k = 1 then c1 else if k = 2 then c2 else if k = 3 then c3 else if k = 4 then c4 else if k = 5 then c5 else if k = 6 then c6 else c7, fun k => if k = 0 then i0 else if k = 1 then i1 else if k = 2 then i2 else if k = 3 then i3 else if k = 4 then i4 else if k = 5 then i5 else if k = 6 then i6 else i7), fun k => if k = 0 then a0 else if k = 1 then a1 else if k = 2 then a2 else if k = 3 then a3 else a4), ?_, rfl, rfl, rfl, rfl, rfl⟩
    intro k q hq
    match k, hq with
    | 0, hq => cases hq; exact hK0
    | 1, hq => cases hq; exact hK1
    | 2, hq => cases hq; exact hK2
    | 3, hq => cases hq; exact hK3
    | 4, hq => cases hq; exact hK4
    | 5, hq => cases hq; exact hK5
    | 6, hq => cases hq; exact hK6
    | 7, hq => cases hq; exact hK7
    | k + 8, hq => simp [gCl] at hq
  have hKK : gK Γ s := by
    refine ⟨⟨hΓ, fun k q hq => ?_⟩, ⟨ao3, ao4⟩, fun q hq => ?_⟩
    · match k, hq with
      | 0, hq => cases hq; rw [z0]; exact ⟨fun n z => ⟨fun k h => (by cases h), ka0, e02, ca0, e03⟩, e01⟩
      | 1, hq => cases hq; rw [z1]; exact ⟨fun n z => ⟨fun k h => (by cases h), ka1, e12, ca1, e13⟩, e11⟩
      | 2, hq => cases hq; rw [z2]; exact ⟨fun n z => ⟨fun k h => (by cases h), ka2, e22, ca2, e23⟩, e21⟩
      | 3, hq => cases hq; rw [z3]; exact ⟨fun n z => ⟨fun k h => (by cases h), ka3, e33, ca3, e34⟩, ka3, ca3, e33, e34, e31, e35⟩
      | 4, hq => cases hq; rw [z4]; exact ⟨fun n z => ⟨fun k h => (by cases h), ka4, e43, ca4, e44⟩, ka4, ca4, e43, e44, e41, e45⟩
      | k + 5, hq => simp [gty] at hq
    · have hw : ∀ q ∈ NW, Cond.methodLinkNest q.1 q.2.1 q.2.2.1 q.2.2.2 ∈ lw_tbl := nw_in
      exact hts _ (hw q hq)
  obtain ⟨F, hF⟩ : ∃ F : gF, F = (p, l, e, room_1, s, m, #[Value.ref b], below, meth, c, Γ, (fun q : Nat => s.heap.size ≤ q), lw_Z below #[Value.ref b] s) := ⟨_, rfl⟩
  have hC : Cx F RL cL_law 4 room_1 := by subst hF; exact ⟨hx, hb, hml, hown, htb, hlocks, rfl, hKK, fun _ h => h⟩
  have hs : Sc F b L xs := by subst hF; exact ⟨hX, hbl, Nat.not_le.mpr hbl⟩
  have hw : Lw F b := by subst hF; exact ⟨rfl, rfl, rfl, hr, fun _ h => h⟩
  have hl1 : F.2.1 = l := by subst hF; rfl
  have g : G F (SL [] (fun _ => b)) (0, 0) (fun _ _ => 0) 0 [.ref 5000, .null, .null, .null] [] := lw_head hC hs hL hw
  subst hF
  rw [lg_entry_eq]
  refine g s.heap [] _ ?_ (fun i hi => absurd hi (Nat.not_lt_zero i)) (fun k q h => ?_) ⟨fun i j p q h => ?_, fun k q h => ?_⟩ va_S.rf
  · rw [hml]
    exact gLoc_entry (S := SL [] (fun _ => b)) (as := [.ref 5000]) (k := 3) rfl (by decide)
  all_goals exact absurd h (by simp [gws, SL])
