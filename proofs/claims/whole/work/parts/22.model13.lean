def nos (pad : Nat → Nat) (a b : Nat) : Prop := ∀ j, a ≤ j → j < b → ∀ q, rn pad (j + 1) = some q → q.1 ≠ 7
theorem nos_0 {pad : Nat → Nat} {a : Nat} : nos pad a a := fun j h1 h2 => by omega
theorem nos_s {pad : Nat → Nat} {a b : Nat} {q : PSt} (h : nos pad a b) (hr : rn pad (b + 1) = some q) (h7 : q.1 ≠ 7) : nos pad a (b + 1) := fun j h1 h2 q' hq => by
  by_cases hj : j = b
  · subst hj; rw [hr] at hq; cases hq; exact h7
  · exact h j h1 (by omega) q' hq
def dig (c : Nat) : Prop := 48 ≤ c ∧ c ≤ 57
theorem dgB_d {c : Nat} : dgB 0 9 c = true ↔ dig c := by simp [dgB, dig]
theorem dgB_p {c : Nat} : dgB 1 9 c = true ↔ 49 ≤ c ∧ c ≤ 57 := by simp [dgB]
theorem stp3 {k f v p c : Nat} (h : dig c) : stp (3, k, f, v, p) c = some (4, k, f, c - 48, p) := by simp [stp, h.1, h.2]
theorem stp3n {k f v p c : Nat} (h : ¬ dig c) : stp (3, k, f, v, p) c = none := by simp only [stp]; simp; exact fun a => Nat.not_le.mp fun b => h ⟨a, b⟩
theorem stp4 {k f v p c : Nat} (h : dig c) (hv : 0 < v) (h9 : v * 10 + (c - 48) ≤ 999) : stp (4, k, f, v, p) c = some (4, k, f, v * 10 + (c - 48), p) := by
  have h33 : ¬ c = 33 := by have := h.1; omega
  have hv0 : ¬ v = 0 := by omega
  simp [stp, h.1, h.2, h33, hv0, h9]
theorem stp4n {k f v p c : Nat} (h33 : ¬ c = 33) (h : ¬ (dig c ∧ 0 < v ∧ v * 10 + (c - 48) ≤ 999)) : stp (4, k, f, v, p) c = none := by
  simp only [stp]
  rw [if_neg (by decide), if_neg (by decide), if_neg (by decide), if_neg (by decide), if_pos trivial, if_neg h33, if_neg]
  rintro ⟨h1, h2, h3⟩
  exact h ⟨h1, Nat.pos_of_ne_zero h2, h3⟩
def NumP (pad : Nat → Nat) (len P k f p0 : Nat) (X : gX) (rr : Int32) (X' : gX) : Prop := ((PS X' P true ∧ stuck pad len P) ∨ ∃ P' v, rr = nI v ∧ v ≤ 999 ∧ P' ≤ len ∧ P < P' ∧ rn pad P' = some (4, k, f, v, p0) ∧ PS X' P' false ∧ (sgn pad len P' = 33 ∨ stp (4, k, f, v, p0) (sgn pad len P') = none) ∧ nos pad P P') ∧ fQ X X'
theorem stp0w {q : PSt} {c : Nat} (h0 : q.1 = 0) (h : c = 119 ∨ c = 115) : stp q c = some (1, c, q.2.2) := by unfold stp; rw [if_pos h0, if_pos h]
theorem stp0t {q : PSt} {c : Nat} (h0 : q.1 = 0) (h : c = 116 ∨ c = 98) : stp q c = some (7, c, q.2.2) := by unfold stp; rw [if_pos h0, if_neg (by omega), if_pos h]
theorem stp0n {q : PSt} {c : Nat} (h0 : q.1 = 0) (h : ¬ c = 119 ∧ ¬ c = 115 ∧ ¬ c = 116 ∧ ¬ c = 98) : stp q c = none := by unfold stp; rw [if_pos h0, if_neg (by omega), if_neg (by omega)]
theorem stp1 {k f v p c : Nat} (h : dig c) : stp (1, k, f, v, p) c = some (if k = 119 then 2 else 5, k, c - 48, v, p) := by simp [stp, h.1, h.2]
theorem stp1n {k f v p c : Nat} (h : ¬ dig c) : stp (1, k, f, v, p) c = none := by simp only [stp]; simp; exact fun a => Nat.not_le.mp fun b => h ⟨a, b⟩
theorem stp2 {k f v p : Nat} : stp (2, k, f, v, p) 61 = some (3, k, f, v, p) := rfl
theorem stp2n {k f v p c : Nat} (h : ¬ c = 61) : stp (2, k, f, v, p) c = none := by simp [stp, h]
theorem stp4b {k f v p : Nat} : stp (4, k, f, v, p) 33 = some (6, k, f, v, p) := rfl
theorem stp5 {k f v p : Nat} : stp (5, k, f, v, p) 33 = some (6, k, f, v, p) := rfl
theorem stp5n {k f v p c : Nat} (h : ¬ c = 33) : stp (5, k, f, v, p) c = none := by simp [stp, h]
theorem stp6 {k f v p c : Nat} (h : 49 ≤ c ∧ c ≤ 57) : stp (6, k, f, v, p) c = some (7, k, f, v, c - 48) := by simp [stp, h.1, h.2]
theorem stp6n {k f v p c : Nat} (h : ¬ (49 ≤ c ∧ c ≤ 57)) : stp (6, k, f, v, p) c = none := by simp only [stp]; simp; exact fun a => Nat.not_le.mp fun b => h ⟨a, b⟩
def fR (r : Nat) (X X' : gX) : Prop := (∀ i, i ≠ 201 → i ≠ 209 → X' i = X i) ∧ (∀ j, j < 16 → X' 201 j = X 201 j) ∧ ∀ j, j < 4 * r → X' 209 j = X 209 j
theorem fR.rf {r : Nat} {X : gX} : fR r X X := ⟨fun _ _ _ => rfl, fun _ _ => rfl, fun _ _ => rfl⟩
theorem fR.put {r j : Nat} {v : Int32} {X Y : gX} (h : fR r X Y) (hj : 4 * r ≤ j) : fR r X (gu Y 209 j v) := ⟨fun i a b => (gu_ne i b).trans (h.1 i a b), fun i a => by rw [gu_ne 201 (by decide)]; exact h.2.1 i a, fun i a => (gu_id (by omega)).trans (h.2.2 i a)⟩
theorem fR.f {r j : Nat} {v : Int32} {X Y : gX} (h : fR r X Y) (hj : 16 ≤ j) : fR r X (gu Y 201 j v) := ⟨fun i a b => (gu_ne i a).trans (h.1 i a b), fun i a => (gu_id (by omega)).trans (h.2.1 i a), fun i a => by rw [gu_ne 209 (by decide)]; exact h.2.2 i a⟩
theorem fR.q {r : Nat} {X Y W : gX} (h : fR r X Y) (q : fQ Y W) : fR r X W := ⟨fun i a b => (q.1 i a).trans (h.1 i a b), fun i a => (q.2 i (by omega)).trans (h.2.1 i a), fun i a => by rw [q.1 209 (by decide)]; exact h.2.2 i a⟩
theorem fR.tr {r r2 : Nat} {X Y W : gX} (h : fR r X Y) (q : fR r2 Y W) (hr : r ≤ r2) : fR r X W := ⟨fun i a b => (q.1 i a b).trans (h.1 i a b), fun i a => (q.2.1 i a).trans (h.2.1 i a), fun i a => (q.2.2 i (by omega)).trans (h.2.2 i a)⟩
theorem PS.o {X : gX} {P j : Nat} {w : Bool} {v : Int32} (h : PS X P w) : PS (gu X 209 j v) P w := ⟨by rw [gu_ne 201 (by decide)]; exact h.1, by rw [gu_ne 201 (by decide)]; exact h.2⟩
theorem PD.r {r : Nat} {X Y : gX} {pad : Nat → Nat} {len : Nat} (h : PD X pad len) (f : fR r X Y) : PD Y pad len := h.q (f.2.1 7 (by decide)) (f.1 207 (by decide) (by decide))
/-- what is kept of an order in the model's row -/
def OrdM (X : gX) (r k f v p : Nat) : Prop := X 209 (4 * r) = nI k ∧ (k = 119 → X 209 (4 * r + 1) = nI f ∧ X 209 (4 * r + 2) = nI v ∧ X 209 (4 * r + 3) = nI p) ∧ (k = 115 → X 209 (4 * r + 1) = nI f ∧ X 209 (4 * r + 3) = nI p) ∧ (k = 119 ∨ k = 115 ∨ k = 116 ∨ k = 98)
def OneP (pad : Nat → Nat) (len P r : Nat) (X X' : gX) : Prop := fR r X X' ∧ ((∃ P', PS X' P' true ∧ stuck pad len P') ∨ ∃ P' k f v p, PS X' P' false ∧ P < P' ∧ P' ≤ len ∧ rn pad P' = some (7, k, f, v, p) ∧ X' 201 16 = nI (r + 1) ∧ OrdM X' r k f v p ∧ nos pad P (P' - 1))

set_option maxHeartbeats 4000000 in
set_option maxRecDepth 100000 in
theorem c_number {l : Launch} {ad : Nat → Nat} {X : gX} {pad : Nat → Nat} {len P k f v0 p0 : Nat} (hd : PD X pad len) (hs : PS X P false) (hP : P ≤ len) (hr : rn pad P = some (3, k, f, v0, p0)) : K_X7_number l ad [.ref 201] X (NumP pad len P k f p0 X) := by
  refine Ct.of [.ref 201, .null] 1 (by decide +kernel) rfl (Nat.le_of_ble_eq_true rfl) (fun F hl hC hRt _ => ?_)
  subst hl
  have hl80 := hd.2.1
  refine g_aload_0 hC dX7_number_0 (pc' := 1) rfl ?_
  refine g_iconst hC dX7_number_1 (pc' := 2) kc_iconst_0 rfl ?_
  refine g_bipush hC dX7_number_2 (pc' := 4) kc_bipush_9 rfl ?_
  refine g_callV2I hC (c_one (lo := 0) (hi := 9) (by decide) (by decide) hd hs (by omega)) ml_X7_177 (sh_M ad) rfl ⟨(Nat.le_of_ble_eq_true rfl), (Nat.le_of_ble_eq_true rfl)⟩ (Nat.le_of_ble_eq_true rfl) dX7_number_4 (pc' := 7) rfl ⟨Nat.zero_le _, Nat.zero_le _⟩ (fun v4 X4 q4 => ?_)
  obtain ⟨rfl, hs4, f4⟩ := q4
  simp only [Bool.false_or] at hs4
  refine g_istore_1 hC dX7_number_7 (pc' := 8) rfl (Nat.le_of_ble_eq_true rfl) rfl ?_
  cases hdg : dgB 0 9 (sgn pad len P) with
  | false =>
    rw [hdg] at hs4
    refine g_aload_0 hC dX7_number_8 (pc' := 9) rfl ?_
    refine g_getI hC fl_X7_174 (sh_M ad) rfl (hs4.2) dX7_number_9 (pc' := 12) rfl ?_
    refine g_ifZ_ne hC dX7_number_12 (pc' := 15) (tgt := 77) (by decide) rfl (fun h12 => ?_) (fun h12 => by cases h12)
    refine g_iload_1 hC dX7_number_77 (pc' := 78) rfl ?_
    refine g_iretI hC hRt rfl dX7_number_78 ?_
    exact ⟨Or.inl ⟨by simpa using hs4, stuck_of hP hr (show (3 : Nat) ≠ 7 by decide) (stp3n (fun z => by rw [dgB_d.mpr z] at hdg; cases hdg))⟩, f4⟩
  | true =>
    rw [hdg] at hs4
    have hdd := dgB_d.mp hdg
    have hne : sgn pad len P ≠ 0 := by have := hdd.1; omega
    obtain ⟨hPl, hsp⟩ := sgn_lt hne
    rw [hsp] at hdd
    have hr1 : rn pad (P + 1) = some (4, k, f, pad P - 48, p0) := (rn_s hr).trans (stp3 hdd)
    have hd57 := hdd.2
    have hd48 := hdd.1
    rw [show nI (sgn pad len P) - nI 48 = nI (pad P - 48) by rw [hsp]; exact pk_sub (by omega)]
    have L8 : ∀ i, i ≤ len → ∀ v, v ≤ 999 → P < i → rn pad i = some (4, k, f, v, p0) → nos pad P i → ∀ X1 : gX, (PS X1 i false ∧ fQ X X1) → G F (S0 ad) (0, 0) X1 8 [.ref 201, .int (nI v)] [] := by
      refine up_ind _ (fun i hk8 ih8 => ?_)
      intro v hv9 hPi hrn hns
      intro X1 hm8
      refine g_aload_0 hC dX7_number_8 (pc' := 9) rfl ?_
      refine g_getI hC fl_X7_174 (sh_M ad) rfl (hm8.1.2) dX7_number_9 (pc' := 12) rfl ?_
      refine g_ifZ_ne hC dX7_number_12 (pc' := 15) (tgt := 77) (by decide) rfl (fun h12 => by cases h12) (fun h12 => ?_)
      refine g_iload_1 hC dX7_number_15 (pc' := 16) rfl ?_
      refine g_ifN_le hC dX7_number_16 (pc' := 19) (tgt := 77) (by decide) rfl (by omega) (fun h16 => ?_) (fun h16 => ?_)
      · refine g_iload_1 hC dX7_number_77 (pc' := 78) rfl ?_
        refine g_iretI hC hRt rfl dX7_number_78 ?_
        exact ⟨Or.inr ⟨i, v, rfl, hv9, hk8, hPi, hrn, hm8.1, (by by_cases h33 : sgn pad len i = 33; exact Or.inl h33; exact Or.inr (stp4n h33 (fun z => by have := z.2.1; omega))), hns⟩, hm8.2⟩
      · refine g_aload_0 hC dX7_number_19 (pc' := 20) rfl ?_
        have hd1 : PD X1 pad len := hd.q (hm8.2.2 7 (by decide)) (hm8.2.1 207 (by decide))
        have hsi126 := sgn_le (P := i) hd
        refine g_callV0R hC (c_sign hd1 hm8.1 (by omega)) ml_X7_171 (sh_M ad) rfl ⟨(Nat.le_of_ble_eq_true rfl), (Nat.le_of_ble_eq_true rfl)⟩ (Nat.le_of_ble_eq_true rfl) dX7_number_20 (pc' := 23) rfl ⟨Nat.zero_le _, Nat.zero_le _⟩ ?_
        refine g_bipush hC dX7_number_23 (pc' := 25) kc_bipush_48 rfl ?_
        refine g_bipush hC dX7_number_25 (pc' := 27) kc_bipush_57 rfl ?_
        refine g_callS3R hC (c_in) ml_X7_43 ⟨(Nat.le_of_ble_eq_true rfl), (Nat.le_of_ble_eq_true rfl)⟩ (Nat.le_of_ble_eq_true rfl) dX7_number_27 (pc' := 30) rfl ⟨Nat.zero_le _, Nat.zero_le _⟩ ?_
        refine g_ifZ_eq hC dX7_number_30 (pc' := 33) (tgt := 77) (by decide) rfl (fun h30 => ?_) (fun h30 => ?_)
        · rw [inB_nI (by omega) (by decide) (by decide)] at h30
          have hnd : ¬ dig (sgn pad len i) := fun z => by simp [z.1, z.2] at h30
          refine g_iload_1 hC dX7_number_77 (pc' := 78) rfl ?_
          refine g_iretI hC hRt rfl dX7_number_78 ?_
          exact ⟨Or.inr ⟨i, v, rfl, hv9, hk8, hPi, hrn, hm8.1, (by by_cases h33 : sgn pad len i = 33; exact Or.inl h33; exact Or.inr (stp4n h33 (fun z => hnd z.1))), hns⟩, hm8.2⟩
        · rw [inB_nI (by omega) (by decide) (by decide)] at h30
          simp only [Bool.and_eq_true, decide_eq_true_eq] at h30
          have hne2 : sgn pad len i ≠ 0 := by omega
          obtain ⟨hil, hsi⟩ := sgn_lt hne2
          refine g_bipush hC dX7_number_33 (pc' := 35) kc_bipush_10 rfl ?_
          refine g_iload_1 hC dX7_number_35 (pc' := 36) rfl ?_
          refine g_imulN hC dX7_number_36 (pc' := 37) rfl ?_
          refine g_aload_0 hC dX7_number_37 (pc' := 38) rfl ?_
          refine g_callV0R hC (c_sign hd1 hm8.1 (by omega)) ml_X7_171 (sh_M ad) rfl ⟨(Nat.le_of_ble_eq_true rfl), (Nat.le_of_ble_eq_true rfl)⟩ (Nat.le_of_ble_eq_true rfl) dX7_number_38 (pc' := 41) rfl ⟨Nat.zero_le _, Nat.zero_le _⟩ ?_
          refine g_iaddN hC dX7_number_41 (pc' := 42) rfl ?_
          refine g_bipush hC dX7_number_42 (pc' := 44) kc_bipush_48 rfl ?_
          refine g_isubN hC dX7_number_44 (pc' := 45) rfl (by omega) ?_
          refine g_sipush hC dX7_number_45 (pc' := 48) kc_sipush_999 rfl ?_
          refine g_icmpN_gt hC dX7_number_48 (pc' := 51) (tgt := 77) (by decide) rfl (by omega) (by omega) (fun h48 => ?_) (fun h48 => ?_)
          · refine g_iload_1 hC dX7_number_77 (pc' := 78) rfl ?_
            refine g_iretI hC hRt rfl dX7_number_78 ?_
            exact ⟨Or.inr ⟨i, v, rfl, hv9, hk8, hPi, hrn, hm8.1, (Or.inr (stp4n (by omega) (fun z => by have := z.2.2; omega))), hns⟩, hm8.2⟩
          · have hr2 : rn pad (i + 1) = some (4, k, f, v * 10 + (pad i - 48), p0) := (rn_s hrn).trans (stp4 (by rw [← hsi]; exact h30) h16 (by rw [← hsi]; omega))
            refine g_bipush hC dX7_number_51 (pc' := 53) kc_bipush_10 rfl ?_
            refine g_iload_1 hC dX7_number_53 (pc' := 54) rfl ?_
            refine g_imulN hC dX7_number_54 (pc' := 55) rfl ?_
            refine g_aload_0 hC dX7_number_55 (pc' := 56) rfl ?_
            refine g_callV0R hC (c_sign hd1 hm8.1 (by omega)) ml_X7_171 (sh_M ad) rfl ⟨(Nat.le_of_ble_eq_true rfl), (Nat.le_of_ble_eq_true rfl)⟩ (Nat.le_of_ble_eq_true rfl) dX7_number_56 (pc' := 59) rfl ⟨Nat.zero_le _, Nat.zero_le _⟩ ?_
            refine g_iaddN hC dX7_number_59 (pc' := 60) rfl ?_
            refine g_bipush hC dX7_number_60 (pc' := 62) kc_bipush_48 rfl ?_
            refine g_isubN hC dX7_number_62 (pc' := 63) rfl (by omega) ?_
            refine g_istore_1 hC dX7_number_63 (pc' := 64) rfl (Nat.le_of_ble_eq_true rfl) rfl ?_
            refine g_aload_0 hC dX7_number_64 (pc' := 65) rfl ?_
            refine g_dup hC dX7_number_65 (pc' := 66) rfl rfl ?_
            refine g_getI hC fl_X7_168 (sh_M ad) rfl (hm8.1.1) dX7_number_66 (pc' := 69) rfl ?_
            refine g_iconst hC dX7_number_69 (pc' := 70) kc_iconst_1 rfl ?_
            refine g_iaddN hC dX7_number_70 (pc' := 71) rfl ?_
            refine g_putI hC fl_X7_168 (sh_M ad) rfl rfl rfl dX7_number_71 (pc' := 74) rfl ?_
            refine g_goto hC dX7_number_74 (tgt := 8) (by decide) ?_
            exact g_weak (ih8 (by omega) (v * 10 + (pad i - 48)) (by rw [← hsi]; omega) (by omega) hr2 (nos_s hns hr2 (show (4 : Nat) ≠ 7 by decide)) _ (by exact ⟨⟨gu_at, (gu_id (by decide)).trans hm8.1.2⟩, hm8.2.tr ⟨fun j hj => gu_ne j hj, fun j hj => gu_id (by omega)⟩⟩)) (gle_s (gle_i (by rw [show 10 * v + sgn pad len i - 48 = v * 10 + (pad i - 48) by rw [← hsi]; omega]) gle_nil))
    exact g_weak (L8 (P + 1) (by omega) (pad P - 48) (by omega) (by omega) hr1 (nos_s nos_0 hr1 (show (4 : Nat) ≠ 7 by decide)) _ (by exact ⟨by simpa using hs4, f4⟩)) (gle_s (gle_i (by first | rfl | omega) gle_nil))
