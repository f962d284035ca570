/-- the reader stands at P in the state q, or (w) it is stuck there -/
def At (pad : Nat → Nat) (len P0 : Nat) (w : Bool) (P : Nat) (q : PSt) : Prop := P ≤ len ∧ if w = true then stuck pad len P else rn pad P = some q ∧ P0 < P ∧ nos pad P0 P
theorem At.btw {pad : Nat → Nat} {len P0 P c : Nat} {w : Bool} {q q' : PSt} (h : At pad len P0 w P q) (h7 : q.1 ≠ 7) (h7' : q'.1 ≠ 7) (hc : c ≠ 0) (hs : stp q c = some q') (hn : ∀ x, x ≠ c → stp q x = none) : At pad len P0 (w || !decide (sgn pad len P = c)) (if (w || !decide (sgn pad len P = c)) = true then P else P + 1) q' := by
  unfold At at *
  cases w with
  | true => simpa using h
  | false =>
    simp only [Bool.false_or, Bool.false_eq_true, if_false] at h ⊢
    by_cases hx : sgn pad len P = c
    · obtain ⟨hl, hp⟩ := sgn_lt (pad := pad) (len := len) (P := P) (by rw [hx]; exact hc)
      have hr : rn pad (P + 1) = some q' := (rn_s h.2.1).trans (by rw [← hp, hx]; exact hs)
      simp only [hx, decide_true, Bool.not_true, Bool.false_eq_true, if_false]
      exact ⟨hl, hr, by omega, nos_s h.2.2.2 hr h7'⟩
    · simp only [hx, decide_false, Bool.not_false, if_true]
      exact ⟨h.1, stuck_of h.1 h.2.1 h7 (hn _ hx)⟩
theorem At.one {pad : Nat → Nat} {len P0 P lo hi : Nat} {w : Bool} {q : PSt} {q' : Nat → PSt} (h : At pad len P0 w P q) (h7 : q.1 ≠ 7) (h7' : ∀ x, (q' x).1 ≠ 7) (hs : ∀ x, dgB lo hi x = true → stp q x = some (q' x)) (hn : ∀ x, dgB lo hi x = false → stp q x = none) : At pad len P0 (w || !dgB lo hi (sgn pad len P)) (if (w || !dgB lo hi (sgn pad len P)) = true then P else P + 1) (q' (sgn pad len P)) := by
  unfold At at *
  cases w with
  | true => simpa using h
  | false =>
    simp only [Bool.false_or, Bool.false_eq_true, if_false] at h ⊢
    cases hx : dgB lo hi (sgn pad len P) with
    | true =>
      have h0 : sgn pad len P ≠ 0 := fun z => by rw [z] at hx; simp [dgB] at hx
      obtain ⟨hl, hp⟩ := sgn_lt h0
      have hr : rn pad (P + 1) = some (q' (sgn pad len P)) := (rn_s h.2.1).trans (by rw [← hp]; exact hs _ hx)
      simp only [Bool.not_true, Bool.false_eq_true, if_false]
      exact ⟨hl, hr, by omega, nos_s h.2.2.2 hr (h7' _)⟩
    | false =>
      simp only [Bool.not_false, if_true]
      exact ⟨h.1, stuck_of h.1 h.2.1 h7 (hn _ hx)⟩
theorem dgI {c lo hi : Nat} (h : dgB lo hi c = true) : nI c - nI 48 = nI (c - 48) := by
  simp only [dgB, Bool.and_eq_true, decide_eq_true_eq] at h
  exact pk_sub (by omega)
theorem num_at {pad : Nat → Nat} {len P0 P k f p0 : Nat} {X X' : gX} {rr : Int32} (h : NumP pad len P k f p0 X rr X') (hP : P ≤ len) (h0 : P0 < P) (hn : nos pad P0 P) : ∃ w Q v, PS X' Q w ∧ Q ≤ len ∧ (if w = true then stuck pad len Q else (rn pad Q = some (4, k, f, v, p0) ∧ P0 < Q ∧ nos pad P0 Q) ∧ (sgn pad len Q = 33 ∨ stp (4, k, f, v, p0) (sgn pad len Q) = none) ∧ rr = nI v) ∧ fQ X X' := by
  obtain ⟨h1 | ⟨P', v, e1, e2, e3, e4, e5, e6, e7, e8⟩, hq⟩ := h
  · exact ⟨true, P, 0, h1.1, hP, by rw [if_pos rfl]; exact h1.2, hq⟩
  · refine ⟨false, P', v, e6, e3, ?_, hq⟩
    rw [if_neg (by decide)]
    refine ⟨⟨e5, by omega, fun j hj1 hj2 q hqq => ?_⟩, e7, e1⟩
    by_cases hj : j < P
    · exact hn j hj1 hj q hqq
    · exact e8 j (by omega) hj2 q hqq
/-- before the '!' -/
def Pre33 (pad : Nat → Nat) (len P0 r K e : Nat) (p0 : Nat) (Y : gX) (w : Bool) (Q f v : Nat) : Prop := Q ≤ len ∧ if w = true then stuck pad len Q else (rn pad Q = some (e, K, f, v, p0) ∧ P0 < Q ∧ nos pad P0 Q) ∧ (sgn pad len Q = 33 ∨ stp (e, K, f, v, p0) (sgn pad len Q) = none) ∧ Y 209 (4 * r) = nI K ∧ Y 209 (4 * r + 1) = nI f ∧ (K = 119 → Y 209 (4 * r + 2) = nI v)
theorem Pre33.go {pad : Nat → Nat} {len P0 r K e p0 : Nat} {Y : gX} {w : Bool} {Q f v : Nat} (h : Pre33 pad len P0 r K e p0 Y w Q f v) (he : e = 4 ∨ e = 5) : At pad len P0 (w || !decide (sgn pad len Q = 33)) (if (w || !decide (sgn pad len Q = 33)) = true then Q else Q + 1) (6, K, f, v, p0) := by
  obtain ⟨hQ, h⟩ := h
  unfold At
  cases w with
  | true => simpa using ⟨hQ, h⟩
  | false =>
    simp only [Bool.false_or, Bool.false_eq_true, if_false] at h ⊢
    have he7 : e ≠ 7 := by omega
    by_cases hx : sgn pad len Q = 33
    · obtain ⟨hl, hp⟩ := sgn_lt (pad := pad) (len := len) (P := Q) (by rw [hx]; decide)
      have hr : rn pad (Q + 1) = some (6, K, f, v, p0) := (rn_s h.1.1).trans (by
        rw [← hp, hx]
        rcases he with rfl | rfl
        · exact stp4b
        · exact stp5)
      simp only [hx, decide_true, Bool.not_true, Bool.false_eq_true, if_false]
      exact ⟨hl, hr, by omega, nos_s h.1.2.2 hr (show (6 : Nat) ≠ 7 by decide)⟩
    · simp only [hx, decide_false, Bool.not_false, if_true]
      exact ⟨hQ, stuck_of hQ h.1.1 he7 (h.2.1.resolve_left hx)⟩

set_option maxHeartbeats 4000000 in
set_option maxRecDepth 100000 in
theorem c_readOne {l : Launch} {ad : Nat → Nat} {X : gX} {pad : Nat → Nat} {len P r : Nat} {q0 : PSt} (hd : PD X pad len) (hs : PS X P false) (hP : P ≤ len) (hr : rn pad P = some q0) (h0 : q0.1 = 0) (hr16 : X 201 16 = nI r) (hrr : 2 * r ≤ P) : K_X7_readOne l ad [.ref 201] X (OneP pad len P r X) := by
  refine Ct.of [.ref 201, .null, .null] 2 (by decide +kernel) rfl (Nat.le_of_ble_eq_true rfl) (fun F hl hC hRt _ => ?_)
  subst hl
  have hl80 := hd.2.1
  have hsl := sgn_le (P := P) hd
  refine g_iconst hC dX7_readOne_0 (pc' := 1) kc_iconst_4 rfl ?_
  refine g_aload_0 hC dX7_readOne_1 (pc' := 2) rfl ?_
  refine g_getI hC fl_X7_180 (sh_M ad) rfl (hr16) dX7_readOne_2 (pc' := 5) rfl ?_
  refine g_imulN hC dX7_readOne_5 (pc' := 6) rfl ?_
  refine g_istore_1 hC dX7_readOne_6 (pc' := 7) rfl (Nat.le_of_ble_eq_true rfl) rfl ?_
  refine g_aload_0 hC dX7_readOne_7 (pc' := 8) rfl ?_
  refine g_callV0R hC (c_sign hd hs (by omega)) ml_X7_171 (sh_M ad) rfl ⟨(Nat.le_of_ble_eq_true rfl), (Nat.le_of_ble_eq_true rfl)⟩ (Nat.le_of_ble_eq_true rfl) dX7_readOne_8 (pc' := 11) rfl ⟨Nat.zero_le _, Nat.zero_le _⟩ ?_
  refine g_istore_2 hC dX7_readOne_11 (pc' := 12) rfl (Nat.le_of_ble_eq_true rfl) rfl ?_
  refine g_aload_0 hC dX7_readOne_12 (pc' := 13) rfl ?_
  refine g_getR hC fl_X7_32 (sh_M ad) rfl dX7_readOne_13 (pc' := 16) rfl ?_
  refine g_iload_1 hC dX7_readOne_16 (pc' := 17) rfl ?_
  refine g_iload_2 hC dX7_readOne_17 (pc' := 18) rfl ?_
  refine g_iast hC (sh_morders ad) (Nat.le_of_ble_eq_true rfl) (by omega) dX7_readOne_18 (pc' := 19) rfl ?_
  refine g_aload_0 hC dX7_readOne_19 (pc' := 20) rfl ?_
  refine g_iload_2 hC dX7_readOne_20 (pc' := 21) rfl ?_
  refine g_bipush hC dX7_readOne_21 (pc' := 23) kc_bipush_119 rfl ?_
  refine g_icmpN_eq hC dX7_readOne_23 (pc' := 26) (tgt := 48) (by decide) rfl (by omega) (by omega) (fun h23 => ?_) (fun h23 => ?_)
  · refine g_iconst hC dX7_readOne_48 (pc' := 49) kc_iconst_0 rfl ?_
    refine g_putI hC fl_X7_174 (sh_M ad) rfl (by decide +kernel) (by decide +kernel) dX7_readOne_49 (pc' := 52) rfl ?_
    refine g_aload_0 hC dX7_readOne_52 (pc' := 53) rfl ?_
    refine g_getI hC fl_X7_174 (sh_M ad) rfl (gu_at) dX7_readOne_53 (pc' := 56) rfl ?_
    refine g_ifN_eq hC dX7_readOne_56 (pc' := 59) (tgt := 60) (by decide) rfl (by omega) (fun h56 => ?_) (fun h56 => by omega)
    refine g_aload_0 hC dX7_readOne_60 (pc' := 61) rfl ?_
    refine g_dup hC dX7_readOne_61 (pc' := 62) rfl rfl ?_
    refine g_getI hC fl_X7_168 (sh_M ad) rfl ((gu_id (by decide)).trans ((congrFun (gu_ne 201 (by decide)) 17).trans hs.1)) dX7_readOne_62 (pc' := 65) rfl ?_
    refine g_iconst hC dX7_readOne_65 (pc' := 66) kc_iconst_1 rfl ?_
    refine g_iaddN hC dX7_readOne_66 (pc' := 67) rfl ?_
    refine g_putI hC fl_X7_168 (sh_M ad) rfl rfl rfl dX7_readOne_67 (pc' := 70) rfl ?_
    obtain ⟨hPl, hsp⟩ := sgn_lt (pad := pad) (len := len) (P := P) (by omega)
    obtain ⟨Y1, hY1⟩ : ∃ Y : gX, Y = gu (gu (gu X 209 (4 * r) ((nI (sgn pad len P)))) 201 18 ((nI 0))) 201 17 ((nI (P + 1))) := ⟨_, rfl⟩
    have sY1 : PS Y1 (P + 1) false := by rw [hY1]; exact ⟨gu_at, (gu_id (by decide)).trans gu_at⟩
    have fY1 : fR r X Y1 := by rw [hY1]; exact ((fR.rf.put (Nat.le_refl _)).f (by decide)).f (by decide)
    have rY1 : Y1 201 16 = nI r := by rw [hY1]; exact (gu_id (by decide)).trans ((gu_id (by decide)).trans ((congrFun (gu_ne 201 (by decide)) 16).trans hr16))
    have aY1 : Y1 209 (4 * r) = nI 119 := by rw [hY1]; exact (congrFun (gu_ne 209 (by decide)) _).trans ((congrFun (gu_ne 209 (by decide)) _).trans (gu_at.trans (congrArg nI h23)))
    rw [← hY1]
    have hdY1 := hd.r fY1
    have e1 : rn pad (P + 1) = some (1, 119, q0.2.2) := (rn_s hr).trans (by rw [← hsp, h23]; exact stp0w h0 (by decide))
    have A1 : At pad len P false (P + 1) (1, 119, q0.2.2) := ⟨hPl, by rw [if_neg (by decide)]; exact ⟨e1, by omega, nos_s nos_0 e1 (show (1 : Nat) ≠ 7 by decide)⟩⟩
    have J132 : ∀ (Y : gX) (w : Bool) (Q f v : Nat), PS Y Q w → fR r X Y → Y 201 16 = nI r → Pre33 pad len P r 119 4 q0.2.2.2.2 Y w Q f v → G F (S0 ad) (0, 0) Y 132 [.ref 201, .int (nI (4 * r)), .int (nI (sgn pad len P))] [] := by
      intro Y w Q f v hsY fY rY hM
      have hdY := hd.r fY
      refine g_aload_0 hC dX7_readOne_132 (pc' := 133) rfl ?_
      refine g_bipush hC dX7_readOne_133 (pc' := 135) kc_bipush_33 rfl ?_
      refine g_callV1V hC (c_between (c := 33) (by decide) hdY hsY (by have := hM.1; omega)) ml_X7_183 (sh_M ad) rfl ⟨(Nat.le_of_ble_eq_true rfl), (Nat.le_of_ble_eq_true rfl)⟩ (Nat.le_of_ble_eq_true rfl) dX7_readOne_135 (pc' := 138) rfl ⟨Nat.zero_le _, Nat.zero_le _⟩ (fun X135 q135 => ?_)
      obtain ⟨s135, f135⟩ := q135
      have A4 := hM.go (by decide)
      refine g_aload_0 hC dX7_readOne_138 (pc' := 139) rfl ?_
      refine g_getR hC fl_X7_32 (sh_M ad) rfl dX7_readOne_139 (pc' := 142) rfl ?_
      refine g_iload_1 hC dX7_readOne_142 (pc' := 143) rfl ?_
      refine g_iconst hC dX7_readOne_143 (pc' := 144) kc_iconst_3 rfl ?_
      refine g_iaddN hC dX7_readOne_144 (pc' := 145) rfl ?_
      refine g_aload_0 hC dX7_readOne_145 (pc' := 146) rfl ?_
      refine g_getI hC fl_X7_174 (sh_M ad) rfl (s135.2) dX7_readOne_146 (pc' := 149) rfl ?_
      refine g_ifZ_eq hC dX7_readOne_149 (pc' := 152) (tgt := 156) (by decide) rfl (fun h149 => ?_) (fun h149 => ?_)
      · rw [h149] at s135
        have e4 := A4.2
        rw [h149] at e4
        rw [if_neg (by decide)] at e4
        have hP4z := A4.1
        rw [h149] at hP4z
        have hw : w = false := (Bool.or_eq_false_iff.mp h149).1
        obtain ⟨P4z, hP4e⟩ : ∃ z, z = (if false = true then Q else Q + 1) := ⟨_, rfl⟩
        rw [← hP4e] at s135 e4 hP4z
        have hP4 : P4z ≤ 80 := by omega
        have hd135 := hd.r (fY.q f135)
        refine g_aload_0 hC dX7_readOne_156 (pc' := 157) rfl ?_
        refine g_iconst hC dX7_readOne_157 (pc' := 158) kc_iconst_1 rfl ?_
        refine g_bipush hC dX7_readOne_158 (pc' := 160) kc_bipush_9 rfl ?_
        refine g_callV2I hC (c_one (lo := 1) (hi := 9) (by decide) (by decide) hd135 s135 hP4) ml_X7_177 (sh_M ad) rfl ⟨(Nat.le_of_ble_eq_true rfl), (Nat.le_of_ble_eq_true rfl)⟩ (Nat.le_of_ble_eq_true rfl) dX7_readOne_160 (pc' := 163) rfl ⟨Nat.zero_le _, Nat.zero_le _⟩ (fun v160 X160 q160 => ?_)
        obtain ⟨rfl, s160, f160⟩ := q160
        refine g_iast hC (sh_morders ad) (Nat.le_of_ble_eq_true rfl) (by omega) dX7_readOne_163 (pc' := 164) rfl ?_
        simp only [Bool.false_or] at s160
        obtain ⟨Z, hZ⟩ : ∃ Y : gX, Y = gu X160 209 ((4 * r) + 3) ((nI (sgn pad len P4z) - nI 48)) := ⟨_, rfl⟩
        have sZ : PS Z (if (!dgB 1 9 (sgn pad len P4z)) = true then P4z else P4z + 1) (!dgB 1 9 (sgn pad len P4z)) := by rw [hZ]; exact s160.o
        have fZ : fR r X Z := by rw [hZ]; exact ((fY.q f135).q f160).put (by omega)
        have rZ : Z 201 16 = nI r := by rw [hZ]; exact (congrFun (gu_ne 201 (by decide)) 16).trans ((f160.2 16 (by decide)).trans ((f135.2 16 (by decide)).trans rY))
        have zZ : Z 209 (4 * r + 3) = nI (sgn pad len P4z) - nI 48 := by rw [hZ]; exact gu_at
        have yZ : ∀ j, j < 4 * r + 3 → Z 209 j = Y 209 j := by rw [hZ]; exact fun j hj => (gu_id (by omega)).trans ((congrFun (f160.1 209 (by decide)) j).trans (congrFun (f135.1 209 (by decide)) j))
        rw [← hZ]
        refine g_aload_0 hC dX7_readOne_164 (pc' := 165) rfl ?_
        refine g_dup hC dX7_readOne_165 (pc' := 166) rfl rfl ?_
        refine g_getI hC fl_X7_180 (sh_M ad) rfl (rZ) dX7_readOne_166 (pc' := 169) rfl ?_
        refine g_iconst hC dX7_readOne_169 (pc' := 170) kc_iconst_1 rfl ?_
        refine g_iaddN hC dX7_readOne_170 (pc' := 171) rfl ?_
        refine g_putI hC fl_X7_180 (sh_M ad) rfl rfl rfl dX7_readOne_171 (pc' := 174) rfl ?_
        refine g_vretV hC hRt dX7_readOne_174 ?_
        refine ⟨fZ.f (by decide), ?_⟩
        cases hg : dgB 1 9 (sgn pad len P4z) with
        | false =>
          rw [hg] at sZ
          exact Or.inl ⟨P4z, ⟨(gu_id (by decide)).trans sZ.1, (gu_id (by decide)).trans sZ.2⟩, stuck_of hP4z e4.1 (show (6 : Nat) ≠ 7 by decide) (stp6n (fun z => by rw [dgB_p.mpr z] at hg; cases hg))⟩
        | true =>
          rw [hg] at sZ
          have hne : sgn pad len P4z ≠ 0 := fun z => by rw [z] at hg; cases hg
          obtain ⟨hl4, hs4⟩ := sgn_lt hne
          have hM2 := hM.2
          rw [if_neg (by rw [hw]; decide)] at hM2
          refine Or.inr ⟨P4z + 1, 119, f, v, sgn pad len P4z - 48, ⟨(gu_id (by decide)).trans sZ.1, (gu_id (by decide)).trans sZ.2⟩, by omega, hl4, (rn_s e4.1).trans (by rw [← hs4]; exact stp6 (dgB_p.mp hg)), gu_at, ?_, by rw [Nat.add_sub_cancel]; exact e4.2.2⟩
          have h209 : ∀ j, gu Z 201 16 (nI (r + 1)) 209 j = Z 209 j := fun j => congrFun (gu_ne 209 (by decide)) j
          refine ⟨by rw [h209, yZ _ (by omega)]; exact hM2.2.2.1, fun z => ?_, fun z => ?_, by decide⟩
          · exact ⟨by rw [h209, yZ _ (by omega)]; exact hM2.2.2.2.1, by rw [h209, yZ _ (by omega)]; exact hM2.2.2.2.2 z, by rw [h209, zZ]; exact dgI hg⟩
          · exact ⟨by rw [h209, yZ _ (by omega)]; exact hM2.2.2.2.1, by rw [h209, zZ]; exact dgI hg⟩
      · refine g_iconst hC dX7_readOne_152 (pc' := 153) kc_iconst_0 rfl ?_
        refine g_goto hC dX7_readOne_153 (tgt := 163) (by decide) ?_
        refine g_iast hC (sh_morders ad) (Nat.le_of_ble_eq_true rfl) (by omega) dX7_readOne_163 (pc' := 164) rfl ?_
        obtain ⟨Z, hZ⟩ : ∃ Y : gX, Y = gu X135 209 ((4 * r) + 3) ((nI 0)) := ⟨_, rfl⟩
        have sZ : PS Z (if (w || !decide (sgn pad len Q = 33)) = true then Q else Q + 1) true := by rw [hZ]; exact (by rw [h149] at s135 ⊢; exact s135.o)
        have fZ : fR r X Z := by rw [hZ]; exact (fY.q f135).put (by omega)
        have rZ : Z 201 16 = nI r := by rw [hZ]; exact (congrFun (gu_ne 201 (by decide)) 16).trans ((f135.2 16 (by decide)).trans rY)
        rw [← hZ]
        refine g_aload_0 hC dX7_readOne_164 (pc' := 165) rfl ?_
        refine g_dup hC dX7_readOne_165 (pc' := 166) rfl rfl ?_
        refine g_getI hC fl_X7_180 (sh_M ad) rfl (rZ) dX7_readOne_166 (pc' := 169) rfl ?_
        refine g_iconst hC dX7_readOne_169 (pc' := 170) kc_iconst_1 rfl ?_
        refine g_iaddN hC dX7_readOne_170 (pc' := 171) rfl ?_
        refine g_putI hC fl_X7_180 (sh_M ad) rfl rfl rfl dX7_readOne_171 (pc' := 174) rfl ?_
        refine g_vretV hC hRt dX7_readOne_174 ?_
        exact ⟨fZ.f (by decide), Or.inl ⟨_, ⟨(gu_id (by decide)).trans sZ.1, (gu_id (by decide)).trans sZ.2⟩, by have := A4.2; rw [if_pos h149] at this; exact this⟩⟩
    refine g_iload_2 hC dX7_readOne_70 (pc' := 71) rfl ?_
    refine g_bipush hC dX7_readOne_71 (pc' := 73) kc_bipush_119 rfl ?_
    refine g_icmpN_eq hC dX7_readOne_73 (pc' := 76) (tgt := 82) (by decide) rfl (by omega) (by omega) (fun h73 => ?_) (fun h73 => by omega)
    refine g_aload_0 hC dX7_readOne_82 (pc' := 83) rfl ?_
    refine g_getR hC fl_X7_32 (sh_M ad) rfl dX7_readOne_83 (pc' := 86) rfl ?_
    refine g_iload_1 hC dX7_readOne_86 (pc' := 87) rfl ?_
    refine g_iconst hC dX7_readOne_87 (pc' := 88) kc_iconst_1 rfl ?_
    refine g_iaddN hC dX7_readOne_88 (pc' := 89) rfl ?_
    refine g_aload_0 hC dX7_readOne_89 (pc' := 90) rfl ?_
    refine g_iconst hC dX7_readOne_90 (pc' := 91) kc_iconst_0 rfl ?_
    refine g_bipush hC dX7_readOne_91 (pc' := 93) kc_bipush_9 rfl ?_
    refine g_callV2I hC (c_one (lo := 0) (hi := 9) (by decide) (by decide) hdY1 sY1 (by omega)) ml_X7_177 (sh_M ad) rfl ⟨(Nat.le_of_ble_eq_true rfl), (Nat.le_of_ble_eq_true rfl)⟩ (Nat.le_of_ble_eq_true rfl) dX7_readOne_93 (pc' := 96) rfl ⟨Nat.zero_le _, Nat.zero_le _⟩ (fun v93 X93 q93 => ?_)
    obtain ⟨rfl, s93, f93⟩ := q93
    refine g_iast hC (sh_morders ad) (Nat.le_of_ble_eq_true rfl) (by omega) dX7_readOne_96 (pc' := 97) rfl ?_
    have A2 := A1.one (lo := 0) (hi := 9) (q' := fun x => (2, 119, x - 48, q0.2.2.2)) (show (1 : Nat) ≠ 7 by decide) (fun _ => show (2 : Nat) ≠ 7 by decide) (fun x hx => stp1 (dgB_d.mp hx)) (fun x hx => stp1n (fun z => by rw [dgB_d.mpr z] at hx; cases hx))
    simp only [Bool.false_or] at A2 s93
    obtain ⟨Y2, hY2⟩ : ∃ Y : gX, Y = gu X93 209 ((4 * r) + 1) ((nI (sgn pad len (P + 1)) - nI 48)) := ⟨_, rfl⟩
    have sY2 : PS Y2 (if (!dgB 0 9 (sgn pad len (P + 1))) = true then P + 1 else P + 1 + 1) (!dgB 0 9 (sgn pad len (P + 1))) := by rw [hY2]; exact s93.o
    have fY2 : fR r X Y2 := by rw [hY2]; exact (fY1.q f93).put (by omega)
    have rY2 : Y2 201 16 = nI r := by rw [hY2]; exact (congrFun (gu_ne 201 (by decide)) 16).trans ((f93.2 16 (by decide)).trans rY1)
    have aY2 : Y2 209 (4 * r) = nI 119 := by rw [hY2]; exact (gu_id (by omega)).trans ((congrFun (f93.1 209 (by decide)) _).trans aY1)
    have bY2 : Y2 209 (4 * r + 1) = nI (sgn pad len (P + 1)) - nI 48 := by rw [hY2]; exact gu_at
    rw [← hY2]
    have hdY2 := hd.r fY2
    refine g_iload_2 hC dX7_readOne_97 (pc' := 98) rfl ?_
    refine g_bipush hC dX7_readOne_98 (pc' := 100) kc_bipush_119 rfl ?_
    refine g_icmpN_ne hC dX7_readOne_100 (pc' := 103) (tgt := 132) (by decide) rfl (by omega) (by omega) (fun h100 => by omega) (fun h100 => ?_)
    refine g_aload_0 hC dX7_readOne_103 (pc' := 104) rfl ?_
    refine g_bipush hC dX7_readOne_104 (pc' := 106) kc_bipush_61 rfl ?_
    refine g_callV1V hC (c_between (c := 61) (by decide) hdY2 sY2 (by have := A2.1; omega)) ml_X7_183 (sh_M ad) rfl ⟨(Nat.le_of_ble_eq_true rfl), (Nat.le_of_ble_eq_true rfl)⟩ (Nat.le_of_ble_eq_true rfl) dX7_readOne_106 (pc' := 109) rfl ⟨Nat.zero_le _, Nat.zero_le _⟩ (fun X106 q106 => ?_)
    obtain ⟨s106, f106⟩ := q106
    have A3 := A2.btw (c := 61) (q' := (3, 119, sgn pad len (P + 1) - 48, q0.2.2.2)) (show (2 : Nat) ≠ 7 by decide) (show (3 : Nat) ≠ 7 by decide) (by decide) stp2 (fun x hx => stp2n hx)
    have hd106 := (hd.r (fY2.q f106))
    refine g_aload_0 hC dX7_readOne_109 (pc' := 110) rfl ?_
    refine g_getR hC fl_X7_32 (sh_M ad) rfl dX7_readOne_110 (pc' := 113) rfl ?_
    refine g_iload_1 hC dX7_readOne_113 (pc' := 114) rfl ?_
    refine g_iconst hC dX7_readOne_114 (pc' := 115) kc_iconst_2 rfl ?_
    refine g_iaddN hC dX7_readOne_115 (pc' := 116) rfl ?_
    refine g_aload_0 hC dX7_readOne_116 (pc' := 117) rfl ?_
    refine g_getI hC fl_X7_174 (sh_M ad) rfl (s106.2) dX7_readOne_117 (pc' := 120) rfl ?_
    refine g_ifZ_eq hC dX7_readOne_120 (pc' := 123) (tgt := 127) (by decide) rfl (fun h120 => ?_) (fun h120 => ?_)
    · rw [h120] at s106
      have e3 := A3.2
      rw [h120] at e3
      rw [if_neg (by decide)] at e3
      have hP2z := A3.1
      rw [h120] at hP2z
      obtain ⟨P2z, hP2⟩ : ∃ z, z = (if false = true then (if (!dgB 0 9 (sgn pad len (P + 1))) = true then P + 1 else P + 1 + 1) else (if (!dgB 0 9 (sgn pad len (P + 1))) = true then P + 1 else P + 1 + 1) + 1) := ⟨_, rfl⟩
      rw [← hP2] at s106 e3 hP2z
      have hdg1 : dgB 0 9 (sgn pad len (P + 1)) = true := by simpa using (Bool.or_eq_false_iff.mp h120).1
      refine g_aload_0 hC dX7_readOne_127 (pc' := 128) rfl ?_
      refine g_callV0I hC (c_number hd106 (P := P2z) s106 hP2z e3.1) ml_X7_186 (sh_M ad) rfl ⟨(Nat.le_of_ble_eq_true rfl), (Nat.le_of_ble_eq_true rfl)⟩ (Nat.le_of_ble_eq_true rfl) dX7_readOne_128 (pc' := 131) rfl ⟨Nat.zero_le _, Nat.zero_le _⟩ (fun v128 X128 q128 => ?_)
      obtain ⟨w3, Q3, v3, hs3, hQ3, h3, f128⟩ := num_at q128 hP2z e3.2.1 e3.2.2
      refine g_iast hC (sh_morders ad) (Nat.le_of_ble_eq_true rfl) (by omega) dX7_readOne_131 (pc' := 132) rfl ?_
      obtain ⟨Y3, hY3⟩ : ∃ Y : gX, Y = gu X128 209 ((4 * r) + 2) ((v128)) := ⟨_, rfl⟩
      have sY3 : PS Y3 Q3 w3 := by rw [hY3]; exact hs3.o
      have fY3 : fR r X Y3 := by rw [hY3]; exact ((fY2.q f106).q f128).put (by omega)
      have rY3 : Y3 201 16 = nI r := by rw [hY3]; exact (congrFun (gu_ne 201 (by decide)) 16).trans ((f128.2 16 (by decide)).trans ((f106.2 16 (by decide)).trans rY2))
      have aY3 : Y3 209 (4 * r) = nI 119 := by rw [hY3]; exact (gu_id (by omega)).trans ((congrFun (f128.1 209 (by decide)) _).trans ((congrFun (f106.1 209 (by decide)) _).trans aY2))
      have bY3 : Y3 209 (4 * r + 1) = nI (sgn pad len (P + 1)) - nI 48 := by rw [hY3]; exact (gu_id (by omega)).trans ((congrFun (f128.1 209 (by decide)) _).trans ((congrFun (f106.1 209 (by decide)) _).trans bY2))
      have cY3 : Y3 209 (4 * r + 2) = v128 := by rw [hY3]; exact gu_at
      rw [← hY3]
      refine g_weak (J132 Y3 w3 Q3 (sgn pad len (P + 1) - 48) v3 sY3 fY3 rY3 ⟨hQ3, ?_⟩) (gle_s (gle_s (gle_s gle_nil)))
      cases w3 with
      | true => simpa using h3
      | false =>
        rw [if_neg (by decide)] at h3 ⊢
        exact ⟨h3.1, h3.2.1, aY3, bY3.trans (dgI hdg1), fun _ => cY3.trans h3.2.2⟩
    · refine g_iconst hC dX7_readOne_123 (pc' := 124) kc_iconst_0 rfl ?_
      refine g_goto hC dX7_readOne_124 (tgt := 131) (by decide) ?_
      refine g_iast hC (sh_morders ad) (Nat.le_of_ble_eq_true rfl) (by omega) dX7_readOne_131 (pc' := 132) rfl ?_
      obtain ⟨Y3, hY3⟩ : ∃ Y : gX, Y = gu X106 209 ((4 * r) + 2) ((nI 0)) := ⟨_, rfl⟩
      have sY3 : PS Y3 (if true = true then (if (!dgB 0 9 (sgn pad len (P + 1))) = true then P + 1 else P + 1 + 1) else (if (!dgB 0 9 (sgn pad len (P + 1))) = true then P + 1 else P + 1 + 1) + 1) true := by rw [hY3]; exact (by rw [h120] at s106; exact s106.o)
      have fY3 : fR r X Y3 := by rw [hY3]; exact (fY2.q f106).put (by omega)
      have rY3 : Y3 201 16 = nI r := by rw [hY3]; exact (congrFun (gu_ne 201 (by decide)) 16).trans ((f106.2 16 (by decide)).trans rY2)
      rw [← hY3]
      exact g_weak (J132 Y3 true _ (sgn pad len (P + 1) - 48) 0 sY3 fY3 rY3 (by have h3 := A3; rw [h120] at h3; exact h3)) (gle_s (gle_s (gle_s gle_nil)))
  · refine g_iload_2 hC dX7_readOne_26 (pc' := 27) rfl ?_
    refine g_bipush hC dX7_readOne_27 (pc' := 29) kc_bipush_115 rfl ?_
    refine g_icmpN_eq hC dX7_readOne_29 (pc' := 32) (tgt := 48) (by decide) rfl (by omega) (by omega) (fun h29 => ?_) (fun h29 => ?_)
    · refine g_iconst hC dX7_readOne_48 (pc' := 49) kc_iconst_0 rfl ?_
      refine g_putI hC fl_X7_174 (sh_M ad) rfl (by decide +kernel) (by decide +kernel) dX7_readOne_49 (pc' := 52) rfl ?_
      refine g_aload_0 hC dX7_readOne_52 (pc' := 53) rfl ?_
      refine g_getI hC fl_X7_174 (sh_M ad) rfl (gu_at) dX7_readOne_53 (pc' := 56) rfl ?_
      refine g_ifN_eq hC dX7_readOne_56 (pc' := 59) (tgt := 60) (by decide) rfl (by omega) (fun h56 => ?_) (fun h56 => by omega)
      refine g_aload_0 hC dX7_readOne_60 (pc' := 61) rfl ?_
      refine g_dup hC dX7_readOne_61 (pc' := 62) rfl rfl ?_
      refine g_getI hC fl_X7_168 (sh_M ad) rfl ((gu_id (by decide)).trans ((congrFun (gu_ne 201 (by decide)) 17).trans hs.1)) dX7_readOne_62 (pc' := 65) rfl ?_
      refine g_iconst hC dX7_readOne_65 (pc' := 66) kc_iconst_1 rfl ?_
      refine g_iaddN hC dX7_readOne_66 (pc' := 67) rfl ?_
      refine g_putI hC fl_X7_168 (sh_M ad) rfl rfl rfl dX7_readOne_67 (pc' := 70) rfl ?_
      obtain ⟨hPl, hsp⟩ := sgn_lt (pad := pad) (len := len) (P := P) (by omega)
      obtain ⟨Y1, hY1⟩ : ∃ Y : gX, Y = gu (gu (gu X 209 (4 * r) ((nI (sgn pad len P)))) 201 18 ((nI 0))) 201 17 ((nI (P + 1))) := ⟨_, rfl⟩
      have sY1 : PS Y1 (P + 1) false := by rw [hY1]; exact ⟨gu_at, (gu_id (by decide)).trans gu_at⟩
      have fY1 : fR r X Y1 := by rw [hY1]; exact ((fR.rf.put (Nat.le_refl _)).f (by decide)).f (by decide)
      have rY1 : Y1 201 16 = nI r := by rw [hY1]; exact (gu_id (by decide)).trans ((gu_id (by decide)).trans ((congrFun (gu_ne 201 (by decide)) 16).trans hr16))
      have aY1 : Y1 209 (4 * r) = nI 115 := by rw [hY1]; exact (congrFun (gu_ne 209 (by decide)) _).trans ((congrFun (gu_ne 209 (by decide)) _).trans (gu_at.trans (congrArg nI h29)))
      rw [← hY1]
      have hdY1 := hd.r fY1
      have e1 : rn pad (P + 1) = some (1, 115, q0.2.2) := (rn_s hr).trans (by rw [← hsp, h29]; exact stp0w h0 (by decide))
      have A1 : At pad len P false (P + 1) (1, 115, q0.2.2) := ⟨hPl, by rw [if_neg (by decide)]; exact ⟨e1, by omega, nos_s nos_0 e1 (show (1 : Nat) ≠ 7 by decide)⟩⟩
      have J132 : ∀ (Y : gX) (w : Bool) (Q f v : Nat), PS Y Q w → fR r X Y → Y 201 16 = nI r → Pre33 pad len P r 115 5 q0.2.2.2.2 Y w Q f v → G F (S0 ad) (0, 0) Y 132 [.ref 201, .int (nI (4 * r)), .int (nI (sgn pad len P))] [] := by
        intro Y w Q f v hsY fY rY hM
        have hdY := hd.r fY
        refine g_aload_0 hC dX7_readOne_132 (pc' := 133) rfl ?_
        refine g_bipush hC dX7_readOne_133 (pc' := 135) kc_bipush_33 rfl ?_
        refine g_callV1V hC (c_between (c := 33) (by decide) hdY hsY (by have := hM.1; omega)) ml_X7_183 (sh_M ad) rfl ⟨(Nat.le_of_ble_eq_true rfl), (Nat.le_of_ble_eq_true rfl)⟩ (Nat.le_of_ble_eq_true rfl) dX7_readOne_135 (pc' := 138) rfl ⟨Nat.zero_le _, Nat.zero_le _⟩ (fun X135 q135 => ?_)
        obtain ⟨s135, f135⟩ := q135
        have A4 := hM.go (by decide)
        refine g_aload_0 hC dX7_readOne_138 (pc' := 139) rfl ?_
        refine g_getR hC fl_X7_32 (sh_M ad) rfl dX7_readOne_139 (pc' := 142) rfl ?_
        refine g_iload_1 hC dX7_readOne_142 (pc' := 143) rfl ?_
        refine g_iconst hC dX7_readOne_143 (pc' := 144) kc_iconst_3 rfl ?_
        refine g_iaddN hC dX7_readOne_144 (pc' := 145) rfl ?_
        refine g_aload_0 hC dX7_readOne_145 (pc' := 146) rfl ?_
        refine g_getI hC fl_X7_174 (sh_M ad) rfl (s135.2) dX7_readOne_146 (pc' := 149) rfl ?_
        refine g_ifZ_eq hC dX7_readOne_149 (pc' := 152) (tgt := 156) (by decide) rfl (fun h149 => ?_) (fun h149 => ?_)
        · rw [h149] at s135
          have e4 := A4.2
          rw [h149] at e4
          rw [if_neg (by decide)] at e4
          have hP4z := A4.1
          rw [h149] at hP4z
          have hw : w = false := (Bool.or_eq_false_iff.mp h149).1
          obtain ⟨P4z, hP4e⟩ : ∃ z, z = (if false = true then Q else Q + 1) := ⟨_, rfl⟩
          rw [← hP4e] at s135 e4 hP4z
          have hP4 : P4z ≤ 80 := by omega
          have hd135 := hd.r (fY.q f135)
          refine g_aload_0 hC dX7_readOne_156 (pc' := 157) rfl ?_
          refine g_iconst hC dX7_readOne_157 (pc' := 158) kc_iconst_1 rfl ?_
          refine g_bipush hC dX7_readOne_158 (pc' := 160) kc_bipush_9 rfl ?_
          refine g_callV2I hC (c_one (lo := 1) (hi := 9) (by decide) (by decide) hd135 s135 hP4) ml_X7_177 (sh_M ad) rfl ⟨(Nat.le_of_ble_eq_true rfl), (Nat.le_of_ble_eq_true rfl)⟩ (Nat.le_of_ble_eq_true rfl) dX7_readOne_160 (pc' := 163) rfl ⟨Nat.zero_le _, Nat.zero_le _⟩ (fun v160 X160 q160 => ?_)
          obtain ⟨rfl, s160, f160⟩ := q160
          refine g_iast hC (sh_morders ad) (Nat.le_of_ble_eq_true rfl) (by omega) dX7_readOne_163 (pc' := 164) rfl ?_
          simp only [Bool.false_or] at s160
          obtain ⟨Z, hZ⟩ : ∃ Y : gX, Y = gu X160 209 ((4 * r) + 3) ((nI (sgn pad len P4z) - nI 48)) := ⟨_, rfl⟩
          have sZ : PS Z (if (!dgB 1 9 (sgn pad len P4z)) = true then P4z else P4z + 1) (!dgB 1 9 (sgn pad len P4z)) := by rw [hZ]; exact s160.o
          have fZ : fR r X Z := by rw [hZ]; exact ((fY.q f135).q f160).put (by omega)
          have rZ : Z 201 16 = nI r := by rw [hZ]; exact (congrFun (gu_ne 201 (by decide)) 16).trans ((f160.2 16 (by decide)).trans ((f135.2 16 (by decide)).trans rY))
          have zZ : Z 209 (4 * r + 3) = nI (sgn pad len P4z) - nI 48 := by rw [hZ]; exact gu_at
          have yZ : ∀ j, j < 4 * r + 3 → Z 209 j = Y 209 j := by rw [hZ]; exact fun j hj => (gu_id (by omega)).trans ((congrFun (f160.1 209 (by decide)) j).trans (congrFun (f135.1 209 (by decide)) j))
          rw [← hZ]
          refine g_aload_0 hC dX7_readOne_164 (pc' := 165) rfl ?_
          refine g_dup hC dX7_readOne_165 (pc' := 166) rfl rfl ?_
          refine g_getI hC fl_X7_180 (sh_M ad) rfl (rZ) dX7_readOne_166 (pc' := 169) rfl ?_
          refine g_iconst hC dX7_readOne_169 (pc' := 170) kc_iconst_1 rfl ?_
          refine g_iaddN hC dX7_readOne_170 (pc' := 171) rfl ?_
          refine g_putI hC fl_X7_180 (sh_M ad) rfl rfl rfl dX7_readOne_171 (pc' := 174) rfl ?_
          refine g_vretV hC hRt dX7_readOne_174 ?_
          refine ⟨fZ.f (by decide), ?_⟩
          cases hg : dgB 1 9 (sgn pad len P4z) with
          | false =>
            rw [hg] at sZ
            exact Or.inl ⟨P4z, ⟨(gu_id (by decide)).trans sZ.1, (gu_id (by decide)).trans sZ.2⟩, stuck_of hP4z e4.1 (show (6 : Nat) ≠ 7 by decide) (stp6n (fun z => by rw [dgB_p.mpr z] at hg; cases hg))⟩
          | true =>
            rw [hg] at sZ
            have hne : sgn pad len P4z ≠ 0 := fun z => by rw [z] at hg; cases hg
            obtain ⟨hl4, hs4⟩ := sgn_lt hne
            have hM2 := hM.2
            rw [if_neg (by rw [hw]; decide)] at hM2
            refine Or.inr ⟨P4z + 1, 115, f, v, sgn pad len P4z - 48, ⟨(gu_id (by decide)).trans sZ.1, (gu_id (by decide)).trans sZ.2⟩, by omega, hl4, (rn_s e4.1).trans (by rw [← hs4]; exact stp6 (dgB_p.mp hg)), gu_at, ?_, by rw [Nat.add_sub_cancel]; exact e4.2.2⟩
            have h209 : ∀ j, gu Z 201 16 (nI (r + 1)) 209 j = Z 209 j := fun j => congrFun (gu_ne 209 (by decide)) j
            refine ⟨by rw [h209, yZ _ (by omega)]; exact hM2.2.2.1, fun z => ?_, fun z => ?_, by decide⟩
            · exact ⟨by rw [h209, yZ _ (by omega)]; exact hM2.2.2.2.1, by rw [h209, yZ _ (by omega)]; exact hM2.2.2.2.2 z, by rw [h209, zZ]; exact dgI hg⟩
            · exact ⟨by rw [h209, yZ _ (by omega)]; exact hM2.2.2.2.1, by rw [h209, zZ]; exact dgI hg⟩
        · refine g_iconst hC dX7_readOne_152 (pc' := 153) kc_iconst_0 rfl ?_
          refine g_goto hC dX7_readOne_153 (tgt := 163) (by decide) ?_
          refine g_iast hC (sh_morders ad) (Nat.le_of_ble_eq_true rfl) (by omega) dX7_readOne_163 (pc' := 164) rfl ?_
          obtain ⟨Z, hZ⟩ : ∃ Y : gX, Y = gu X135 209 ((4 * r) + 3) ((nI 0)) := ⟨_, rfl⟩
          have sZ : PS Z (if (w || !decide (sgn pad len Q = 33)) = true then Q else Q + 1) true := by rw [hZ]; exact (by rw [h149] at s135 ⊢; exact s135.o)
          have fZ : fR r X Z := by rw [hZ]; exact (fY.q f135).put (by omega)
          have rZ : Z 201 16 = nI r := by rw [hZ]; exact (congrFun (gu_ne 201 (by decide)) 16).trans ((f135.2 16 (by decide)).trans rY)
          rw [← hZ]
          refine g_aload_0 hC dX7_readOne_164 (pc' := 165) rfl ?_
          refine g_dup hC dX7_readOne_165 (pc' := 166) rfl rfl ?_
          refine g_getI hC fl_X7_180 (sh_M ad) rfl (rZ) dX7_readOne_166 (pc' := 169) rfl ?_
          refine g_iconst hC dX7_readOne_169 (pc' := 170) kc_iconst_1 rfl ?_
          refine g_iaddN hC dX7_readOne_170 (pc' := 171) rfl ?_
          refine g_putI hC fl_X7_180 (sh_M ad) rfl rfl rfl dX7_readOne_171 (pc' := 174) rfl ?_
          refine g_vretV hC hRt dX7_readOne_174 ?_
          exact ⟨fZ.f (by decide), Or.inl ⟨_, ⟨(gu_id (by decide)).trans sZ.1, (gu_id (by decide)).trans sZ.2⟩, by have := A4.2; rw [if_pos h149] at this; exact this⟩⟩
      refine g_iload_2 hC dX7_readOne_70 (pc' := 71) rfl ?_
      refine g_bipush hC dX7_readOne_71 (pc' := 73) kc_bipush_119 rfl ?_
      refine g_icmpN_eq hC dX7_readOne_73 (pc' := 76) (tgt := 82) (by decide) rfl (by omega) (by omega) (fun h73 => by omega) (fun h73 => ?_)
      refine g_iload_2 hC dX7_readOne_76 (pc' := 77) rfl ?_
      refine g_bipush hC dX7_readOne_77 (pc' := 79) kc_bipush_115 rfl ?_
      refine g_icmpN_ne hC dX7_readOne_79 (pc' := 82) (tgt := 164) (by decide) rfl (by omega) (by omega) (fun h79 => by omega) (fun h79 => ?_)
      refine g_aload_0 hC dX7_readOne_82 (pc' := 83) rfl ?_
      refine g_getR hC fl_X7_32 (sh_M ad) rfl dX7_readOne_83 (pc' := 86) rfl ?_
      refine g_iload_1 hC dX7_readOne_86 (pc' := 87) rfl ?_
      refine g_iconst hC dX7_readOne_87 (pc' := 88) kc_iconst_1 rfl ?_
      refine g_iaddN hC dX7_readOne_88 (pc' := 89) rfl ?_
      refine g_aload_0 hC dX7_readOne_89 (pc' := 90) rfl ?_
      refine g_iconst hC dX7_readOne_90 (pc' := 91) kc_iconst_0 rfl ?_
      refine g_bipush hC dX7_readOne_91 (pc' := 93) kc_bipush_9 rfl ?_
      refine g_callV2I hC (c_one (lo := 0) (hi := 9) (by decide) (by decide) hdY1 sY1 (by omega)) ml_X7_177 (sh_M ad) rfl ⟨(Nat.le_of_ble_eq_true rfl), (Nat.le_of_ble_eq_true rfl)⟩ (Nat.le_of_ble_eq_true rfl) dX7_readOne_93 (pc' := 96) rfl ⟨Nat.zero_le _, Nat.zero_le _⟩ (fun v93 X93 q93 => ?_)
      obtain ⟨rfl, s93, f93⟩ := q93
      refine g_iast hC (sh_morders ad) (Nat.le_of_ble_eq_true rfl) (by omega) dX7_readOne_96 (pc' := 97) rfl ?_
      have A2 := A1.one (lo := 0) (hi := 9) (q' := fun x => (5, 115, x - 48, q0.2.2.2)) (show (1 : Nat) ≠ 7 by decide) (fun _ => show (5 : Nat) ≠ 7 by decide) (fun x hx => stp1 (dgB_d.mp hx)) (fun x hx => stp1n (fun z => by rw [dgB_d.mpr z] at hx; cases hx))
      simp only [Bool.false_or] at A2 s93
      obtain ⟨Y2, hY2⟩ : ∃ Y : gX, Y = gu X93 209 ((4 * r) + 1) ((nI (sgn pad len (P + 1)) - nI 48)) := ⟨_, rfl⟩
      have sY2 : PS Y2 (if (!dgB 0 9 (sgn pad len (P + 1))) = true then P + 1 else P + 1 + 1) (!dgB 0 9 (sgn pad len (P + 1))) := by rw [hY2]; exact s93.o
      have fY2 : fR r X Y2 := by rw [hY2]; exact (fY1.q f93).put (by omega)
      have rY2 : Y2 201 16 = nI r := by rw [hY2]; exact (congrFun (gu_ne 201 (by decide)) 16).trans ((f93.2 16 (by decide)).trans rY1)
      have aY2 : Y2 209 (4 * r) = nI 115 := by rw [hY2]; exact (gu_id (by omega)).trans ((congrFun (f93.1 209 (by decide)) _).trans aY1)
      have bY2 : Y2 209 (4 * r + 1) = nI (sgn pad len (P + 1)) - nI 48 := by rw [hY2]; exact gu_at
      rw [← hY2]
      have hdY2 := hd.r fY2
      refine g_iload_2 hC dX7_readOne_97 (pc' := 98) rfl ?_
      refine g_bipush hC dX7_readOne_98 (pc' := 100) kc_bipush_119 rfl ?_
      refine g_icmpN_ne hC dX7_readOne_100 (pc' := 103) (tgt := 132) (by decide) rfl (by omega) (by omega) (fun h100 => ?_) (fun h100 => by omega)
      refine g_weak (J132 Y2 _ _ (sgn pad len (P + 1) - 48) q0.2.2.2.1 sY2 fY2 rY2 ⟨A2.1, ?_⟩) (gle_s (gle_s (gle_s gle_nil)))
      cases hg : dgB 0 9 (sgn pad len (P + 1)) with
      | false => have := A2.2; rw [hg] at this; simpa using this
      | true =>
        have hA := A2.2
        rw [hg] at hA
        rw [if_neg (by decide)] at hA ⊢
        refine ⟨hA, ?_, aY2, bY2.trans (dgI hg), fun z => absurd z (by decide)⟩
        by_cases hx : sgn pad len (if (!true) = true then P + 1 else P + 1 + 1) = 33
        · exact Or.inl hx
        · exact Or.inr (stp5n hx)
    · refine g_iload_2 hC dX7_readOne_32 (pc' := 33) rfl ?_
      refine g_bipush hC dX7_readOne_33 (pc' := 35) kc_bipush_116 rfl ?_
      refine g_icmpN_eq hC dX7_readOne_35 (pc' := 38) (tgt := 48) (by decide) rfl (by omega) (by omega) (fun h35 => ?_) (fun h35 => ?_)
      · refine g_iconst hC dX7_readOne_48 (pc' := 49) kc_iconst_0 rfl ?_
        refine g_putI hC fl_X7_174 (sh_M ad) rfl (by decide +kernel) (by decide +kernel) dX7_readOne_49 (pc' := 52) rfl ?_
        refine g_aload_0 hC dX7_readOne_52 (pc' := 53) rfl ?_
        refine g_getI hC fl_X7_174 (sh_M ad) rfl (gu_at) dX7_readOne_53 (pc' := 56) rfl ?_
        refine g_ifN_eq hC dX7_readOne_56 (pc' := 59) (tgt := 60) (by decide) rfl (by omega) (fun h56 => ?_) (fun h56 => by omega)
        refine g_aload_0 hC dX7_readOne_60 (pc' := 61) rfl ?_
        refine g_dup hC dX7_readOne_61 (pc' := 62) rfl rfl ?_
        refine g_getI hC fl_X7_168 (sh_M ad) rfl ((gu_id (by decide)).trans ((congrFun (gu_ne 201 (by decide)) 17).trans hs.1)) dX7_readOne_62 (pc' := 65) rfl ?_
        refine g_iconst hC dX7_readOne_65 (pc' := 66) kc_iconst_1 rfl ?_
        refine g_iaddN hC dX7_readOne_66 (pc' := 67) rfl ?_
        refine g_putI hC fl_X7_168 (sh_M ad) rfl rfl rfl dX7_readOne_67 (pc' := 70) rfl ?_
        obtain ⟨hPl, hsp⟩ := sgn_lt (pad := pad) (len := len) (P := P) (by omega)
        obtain ⟨Y1, hY1⟩ : ∃ Y : gX, Y = gu (gu (gu X 209 (4 * r) ((nI (sgn pad len P)))) 201 18 ((nI 0))) 201 17 ((nI (P + 1))) := ⟨_, rfl⟩
        have sY1 : PS Y1 (P + 1) false := by rw [hY1]; exact ⟨gu_at, (gu_id (by decide)).trans gu_at⟩
        have fY1 : fR r X Y1 := by rw [hY1]; exact ((fR.rf.put (Nat.le_refl _)).f (by decide)).f (by decide)
        have rY1 : Y1 201 16 = nI r := by rw [hY1]; exact (gu_id (by decide)).trans ((gu_id (by decide)).trans ((congrFun (gu_ne 201 (by decide)) 16).trans hr16))
        have aY1 : Y1 209 (4 * r) = nI 116 := by rw [hY1]; exact (congrFun (gu_ne 209 (by decide)) _).trans ((congrFun (gu_ne 209 (by decide)) _).trans (gu_at.trans (congrArg nI h35)))
        rw [← hY1]
        have hdY1 := hd.r fY1
        have e1 : rn pad (P + 1) = some (7, 116, q0.2.2) := (rn_s hr).trans (by rw [← hsp, h35]; exact stp0t h0 (by decide))
        refine g_iload_2 hC dX7_readOne_70 (pc' := 71) rfl ?_
        refine g_bipush hC dX7_readOne_71 (pc' := 73) kc_bipush_119 rfl ?_
        refine g_icmpN_eq hC dX7_readOne_73 (pc' := 76) (tgt := 82) (by decide) rfl (by omega) (by omega) (fun h73 => by omega) (fun h73 => ?_)
        refine g_iload_2 hC dX7_readOne_76 (pc' := 77) rfl ?_
        refine g_bipush hC dX7_readOne_77 (pc' := 79) kc_bipush_115 rfl ?_
        refine g_icmpN_ne hC dX7_readOne_79 (pc' := 82) (tgt := 164) (by decide) rfl (by omega) (by omega) (fun h79 => ?_) (fun h79 => by omega)
        refine g_aload_0 hC dX7_readOne_164 (pc' := 165) rfl ?_
        refine g_dup hC dX7_readOne_165 (pc' := 166) rfl rfl ?_
        refine g_getI hC fl_X7_180 (sh_M ad) rfl (rY1) dX7_readOne_166 (pc' := 169) rfl ?_
        refine g_iconst hC dX7_readOne_169 (pc' := 170) kc_iconst_1 rfl ?_
        refine g_iaddN hC dX7_readOne_170 (pc' := 171) rfl ?_
        refine g_putI hC fl_X7_180 (sh_M ad) rfl rfl rfl dX7_readOne_171 (pc' := 174) rfl ?_
        refine g_vretV hC hRt dX7_readOne_174 ?_
        exact ⟨fY1.f (by decide), Or.inr ⟨P + 1, 116, q0.2.2.1, q0.2.2.2.1, q0.2.2.2.2, ⟨(gu_id (by decide)).trans sY1.1, (gu_id (by decide)).trans sY1.2⟩, by omega, hPl, e1, gu_at, ⟨(congrFun (gu_ne 209 (by decide)) _).trans aY1, fun z => absurd z (by decide), fun z => absurd z (by decide), by decide⟩, nos_0⟩⟩
      · refine g_iload_2 hC dX7_readOne_38 (pc' := 39) rfl ?_
        refine g_bipush hC dX7_readOne_39 (pc' := 41) kc_bipush_98 rfl ?_
        refine g_icmpN_eq hC dX7_readOne_41 (pc' := 44) (tgt := 48) (by decide) rfl (by omega) (by omega) (fun h41 => ?_) (fun h41 => ?_)
        · refine g_iconst hC dX7_readOne_48 (pc' := 49) kc_iconst_0 rfl ?_
          refine g_putI hC fl_X7_174 (sh_M ad) rfl (by decide +kernel) (by decide +kernel) dX7_readOne_49 (pc' := 52) rfl ?_
          refine g_aload_0 hC dX7_readOne_52 (pc' := 53) rfl ?_
          refine g_getI hC fl_X7_174 (sh_M ad) rfl (gu_at) dX7_readOne_53 (pc' := 56) rfl ?_
          refine g_ifN_eq hC dX7_readOne_56 (pc' := 59) (tgt := 60) (by decide) rfl (by omega) (fun h56 => ?_) (fun h56 => by omega)
          refine g_aload_0 hC dX7_readOne_60 (pc' := 61) rfl ?_
          refine g_dup hC dX7_readOne_61 (pc' := 62) rfl rfl ?_
          refine g_getI hC fl_X7_168 (sh_M ad) rfl ((gu_id (by decide)).trans ((congrFun (gu_ne 201 (by decide)) 17).trans hs.1)) dX7_readOne_62 (pc' := 65) rfl ?_
          refine g_iconst hC dX7_readOne_65 (pc' := 66) kc_iconst_1 rfl ?_
          refine g_iaddN hC dX7_readOne_66 (pc' := 67) rfl ?_
          refine g_putI hC fl_X7_168 (sh_M ad) rfl rfl rfl dX7_readOne_67 (pc' := 70) rfl ?_
          obtain ⟨hPl, hsp⟩ := sgn_lt (pad := pad) (len := len) (P := P) (by omega)
          obtain ⟨Y1, hY1⟩ : ∃ Y : gX, Y = gu (gu (gu X 209 (4 * r) ((nI (sgn pad len P)))) 201 18 ((nI 0))) 201 17 ((nI (P + 1))) := ⟨_, rfl⟩
          have sY1 : PS Y1 (P + 1) false := by rw [hY1]; exact ⟨gu_at, (gu_id (by decide)).trans gu_at⟩
          have fY1 : fR r X Y1 := by rw [hY1]; exact ((fR.rf.put (Nat.le_refl _)).f (by decide)).f (by decide)
          have rY1 : Y1 201 16 = nI r := by rw [hY1]; exact (gu_id (by decide)).trans ((gu_id (by decide)).trans ((congrFun (gu_ne 201 (by decide)) 16).trans hr16))
          have aY1 : Y1 209 (4 * r) = nI 98 := by rw [hY1]; exact (congrFun (gu_ne 209 (by decide)) _).trans ((congrFun (gu_ne 209 (by decide)) _).trans (gu_at.trans (congrArg nI h41)))
          rw [← hY1]
          have hdY1 := hd.r fY1
          have e1 : rn pad (P + 1) = some (7, 98, q0.2.2) := (rn_s hr).trans (by rw [← hsp, h41]; exact stp0t h0 (by decide))
          refine g_iload_2 hC dX7_readOne_70 (pc' := 71) rfl ?_
          refine g_bipush hC dX7_readOne_71 (pc' := 73) kc_bipush_119 rfl ?_
          refine g_icmpN_eq hC dX7_readOne_73 (pc' := 76) (tgt := 82) (by decide) rfl (by omega) (by omega) (fun h73 => by omega) (fun h73 => ?_)
          refine g_iload_2 hC dX7_readOne_76 (pc' := 77) rfl ?_
          refine g_bipush hC dX7_readOne_77 (pc' := 79) kc_bipush_115 rfl ?_
          refine g_icmpN_ne hC dX7_readOne_79 (pc' := 82) (tgt := 164) (by decide) rfl (by omega) (by omega) (fun h79 => ?_) (fun h79 => by omega)
          refine g_aload_0 hC dX7_readOne_164 (pc' := 165) rfl ?_
          refine g_dup hC dX7_readOne_165 (pc' := 166) rfl rfl ?_
          refine g_getI hC fl_X7_180 (sh_M ad) rfl (rY1) dX7_readOne_166 (pc' := 169) rfl ?_
          refine g_iconst hC dX7_readOne_169 (pc' := 170) kc_iconst_1 rfl ?_
          refine g_iaddN hC dX7_readOne_170 (pc' := 171) rfl ?_
          refine g_putI hC fl_X7_180 (sh_M ad) rfl rfl rfl dX7_readOne_171 (pc' := 174) rfl ?_
          refine g_vretV hC hRt dX7_readOne_174 ?_
          exact ⟨fY1.f (by decide), Or.inr ⟨P + 1, 98, q0.2.2.1, q0.2.2.2.1, q0.2.2.2.2, ⟨(gu_id (by decide)).trans sY1.1, (gu_id (by decide)).trans sY1.2⟩, by omega, hPl, e1, gu_at, ⟨(congrFun (gu_ne 209 (by decide)) _).trans aY1, fun z => absurd z (by decide), fun z => absurd z (by decide), by decide⟩, nos_0⟩⟩
        · refine g_iconst hC dX7_readOne_44 (pc' := 45) kc_iconst_1 rfl ?_
          refine g_goto hC dX7_readOne_45 (tgt := 49) (by decide) ?_
          refine g_putI hC fl_X7_174 (sh_M ad) rfl (by decide +kernel) (by decide +kernel) dX7_readOne_49 (pc' := 52) rfl ?_
          refine g_aload_0 hC dX7_readOne_52 (pc' := 53) rfl ?_
          refine g_getI hC fl_X7_174 (sh_M ad) rfl (gu_at) dX7_readOne_53 (pc' := 56) rfl ?_
          refine g_ifN_eq hC dX7_readOne_56 (pc' := 59) (tgt := 60) (by decide) rfl (by omega) (fun h56 => by omega) (fun h56 => ?_)
          refine g_vretV hC hRt dX7_readOne_59 ?_
          exact ⟨⟨fun i a b => (gu_ne i a).trans (gu_ne i b), fun j hj => (gu_id (by omega)).trans (congrFun (gu_ne 201 (by decide)) j), fun j hj => (congrFun (gu_ne 209 (by decide)) j).trans (gu_id (by omega))⟩, Or.inl ⟨P, ⟨(gu_id (by decide)).trans ((congrFun (gu_ne 201 (by decide)) 17).trans hs.1), gu_at⟩, stuck_of hP hr (by omega) (stp0n h0 ⟨by omega, by omega, by omega, by omega⟩)⟩⟩
