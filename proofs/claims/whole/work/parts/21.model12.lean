/-! the text: one reader for both sides: expected, kind, field, value, pressure -/
abbrev PSt : Type := Nat × Nat × Nat × Nat × Nat
def stp (q : PSt) (c : Nat) : Option PSt :=
  if q.1 = 0 then (if c = 119 ∨ c = 115 then some (1, c, q.2.2) else if c = 116 ∨ c = 98 then some (7, c, q.2.2) else none)
  else if q.1 = 1 then (if 48 ≤ c ∧ c ≤ 57 then some (if q.2.1 = 119 then 2 else 5, q.2.1, c - 48, q.2.2.2) else none)
  else if q.1 = 2 then (if c = 61 then some (3, q.2) else none)
  else if q.1 = 3 then (if 48 ≤ c ∧ c ≤ 57 then some (4, q.2.1, q.2.2.1, c - 48, q.2.2.2.2) else none)
  else if q.1 = 4 then (if c = 33 then some (6, q.2) else if (48 ≤ c ∧ c ≤ 57) ∧ q.2.2.2.1 ≠ 0 ∧ q.2.2.2.1 * 10 + (c - 48) ≤ 999 then some (4, q.2.1, q.2.2.1, q.2.2.2.1 * 10 + (c - 48), q.2.2.2.2) else none)
  else if q.1 = 5 then (if c = 33 then some (6, q.2) else none)
  else if q.1 = 6 then (if 49 ≤ c ∧ c ≤ 57 then some (7, q.2.1, q.2.2.1, q.2.2.2.1, c - 48) else none)
  else (if c = 59 then some (0, q.2) else none)
def rn (pad : Nat → Nat) : Nat → Option PSt
  | 0 => some (0, 0, 0, 0, 0)
  | i + 1 => (rn pad i).bind (fun q => stp q (pad i))
theorem rn_s {pad : Nat → Nat} {i : Nat} {q : PSt} (h : rn pad i = some q) : rn pad (i + 1) = stp q (pad i) := by
  show (rn pad i).bind _ = _
  rw [h]
  rfl
def sgn (pad : Nat → Nat) (len P : Nat) : Nat := if P < len then pad P else 0
/-- the reader can't go on at P -/
def stuck (pad : Nat → Nat) (len P : Nat) : Prop := P ≤ len ∧ ∃ q, rn pad P = some q ∧ q.1 ≠ 7 ∧ (P < len → stp q (pad P) = none)
def stuck7 (pad : Nat → Nat) (len P : Nat) : Prop := P < len ∧ ∃ q, rn pad P = some q ∧ stp q (pad P) = none
/-- the model's reader stands at P -/
def PS (X : gX) (P : Nat) (w : Bool) : Prop := X 201 17 = nI P ∧ X 201 18 = zI w
def fQ (X X' : gX) : Prop := (∀ i, i ≠ 201 → X' i = X i) ∧ ∀ j, j < 17 → X' 201 j = X 201 j
theorem fQ.rf {X : gX} : fQ X X := ⟨fun _ _ => rfl, fun _ _ => rfl⟩
theorem fQ.tr {X Y W : gX} (h : fQ X Y) (h2 : fQ Y W) : fQ X W := ⟨fun i a => (h2.1 i a).trans (h.1 i a), fun j a => (h2.2 j a).trans (h.2 j a)⟩
theorem PD.q {X Y : gX} {pad : Nat → Nat} {len : Nat} (h : PD X pad len) (e7 : Y 201 7 = X 201 7) (e : Y 207 = X 207) : PD Y pad len := ⟨e7.trans h.1, h.2.1, fun i hi => by rw [e]; exact h.2.2 i hi⟩
theorem sgn_le {X : gX} {pad : Nat → Nat} {len P : Nat} (h : PD X pad len) : sgn pad len P ≤ 126 := by
  unfold sgn
  split
  · exact (h.2.2 P ‹_›).2.2
  · omega
theorem sgn_lt {pad : Nat → Nat} {len P : Nat} (h : sgn pad len P ≠ 0) : P < len ∧ sgn pad len P = pad P := by
  unfold sgn at *
  split
  · exact ⟨‹_›, rfl⟩
  · rename_i hn; rw [if_neg hn] at h; exact absurd rfl h
/-- what can't be read where the sign is -/
theorem stp_0 (q : PSt) : stp q 0 = none := by
  unfold stp
  repeat (first | split | rfl | omega)
theorem stuck_of {pad : Nat → Nat} {len P : Nat} {q : PSt} (hP : P ≤ len) (h : rn pad P = some q) (h7 : q.1 ≠ 7) (hs : stp q (sgn pad len P) = none) : stuck pad len P := ⟨hP, q, h, h7, fun hl => by
  unfold sgn at hs
  rw [if_pos hl] at hs
  exact hs⟩
def dgB (lo hi c : Nat) : Bool := decide (48 + lo ≤ c) && decide (c ≤ 48 + hi)
theorem dg_in {c lo hi : Nat} (hc : c ≤ 126) (hl : lo ≤ 9) (hh : hi ≤ 9) : inB (nI c - nI 48) (nI lo) (nI hi) = dgB lo hi c := by
  have ht := pk_sub_toInt (a := c) (b := 48) (by omega) (by omega)
  unfold inB dgB
  congr 1
  · rw [decide_eq_decide, Int32.le_iff_toInt_le, ht, nI_toInt (by omega)]; omega
  · rw [decide_eq_decide, Int32.le_iff_toInt_le, ht, nI_toInt (by omega)]; omega
theorem PS.put {X : gX} {P P' : Nat} {w : Bool} (hp : X 201 17 = nI P) (e : P' = if w = true then P else P + 1) : PS (gu (gu X 201 18 (zI w)) 201 17 (nI P')) P' w ∧ fQ X (gu (gu X 201 18 (zI w)) 201 17 (nI P')) := by
  refine ⟨⟨gu_at, (gu_id (by decide)).trans gu_at⟩, fun i hi => (gu_ne i hi).trans (gu_ne i hi), fun j hj => ?_⟩
  rw [gu_id (by omega), gu_id (by omega)]
theorem PS.put1 {X : gX} {P : Nat} (hp : X 201 17 = nI P) : PS (gu (gu X 201 18 (nI 1)) 201 17 (nI (P + 0))) (if true = true then P else P + 1) true ∧ fQ X (gu (gu X 201 18 (nI 1)) 201 17 (nI (P + 0))) := PS.put (w := true) (P' := P) hp rfl
theorem PS.put0 {X : gX} {P : Nat} (hp : X 201 17 = nI P) : PS (gu (gu X 201 18 (nI 0)) 201 17 (nI (P + 1))) (if false = true then P else P + 1) false ∧ fQ X (gu (gu X 201 18 (nI 0)) 201 17 (nI (P + 1))) := PS.put (w := false) (P' := P + 1) hp rfl

set_option maxHeartbeats 4000000 in
set_option maxRecDepth 100000 in
theorem c_sign {l : Launch} {ad : Nat → Nat} {X : gX} {pad : Nat → Nat} {len P : Nat} {w : Bool} (hd : PD X pad len) (hs : PS X P w) (hP : P ≤ 80) : K_X7_sign l ad [.ref 201] X (pR X (nI (sgn pad len P))) := by
  refine Ct.of [.ref 201] 0 (by decide +kernel) rfl (Nat.le_of_ble_eq_true rfl) (fun F hl hC hRt _ => ?_)
  subst hl
  have hl80 := hd.2.1
  refine g_aload_0 hC dX7_sign_0 (pc' := 1) rfl ?_
  refine g_getI hC fl_X7_168 (sh_M ad) rfl (hs.1) dX7_sign_1 (pc' := 4) rfl ?_
  refine g_aload_0 hC dX7_sign_4 (pc' := 5) rfl ?_
  refine g_getI hC fl_X7_156 (sh_M ad) rfl (hd.1) dX7_sign_5 (pc' := 8) rfl ?_
  refine g_icmpN_ge hC dX7_sign_8 (pc' := 11) (tgt := 23) (by decide) rfl (by omega) (by omega) (fun h8 => ?_) (fun h8 => ?_)
  · have h8b : ¬ P < len := by omega
    refine g_iconst hC dX7_sign_23 (pc' := 24) kc_iconst_0 rfl ?_
    refine g_iretR hC hRt rfl dX7_sign_24 ?_
    unfold sgn
    first | rw [if_pos h8] | rw [if_neg h8b]
  · refine g_aload_0 hC dX7_sign_11 (pc' := 12) rfl ?_
    refine g_getR hC fl_X7_26 (sh_M ad) rfl dX7_sign_12 (pc' := 15) rfl ?_
    refine g_aload_0 hC dX7_sign_15 (pc' := 16) rfl ?_
    refine g_getI hC fl_X7_168 (sh_M ad) rfl (hs.1) dX7_sign_16 (pc' := 19) rfl ?_
    refine g_iald hC (sh_mpad ad) (Nat.le_of_ble_eq_true rfl) (by omega) ((hd.2.2 P (by omega)).1) dX7_sign_19 (pc' := 20) rfl ?_
    refine g_goto hC dX7_sign_20 (tgt := 24) (by decide) ?_
    refine g_iretR hC hRt rfl dX7_sign_24 ?_
    unfold sgn
    first | rw [if_pos h8] | rw [if_neg h8b]

set_option maxHeartbeats 4000000 in
set_option maxRecDepth 100000 in
theorem c_one {l : Launch} {ad : Nat → Nat} {X : gX} {lo hi : Nat} (hlo : lo ≤ 9) (hhi : hi ≤ 9) {pad : Nat → Nat} {len P : Nat} {w : Bool} (hd : PD X pad len) (hs : PS X P w) (hP : P ≤ 80) : K_X7_one l ad [.ref 201, .int (nI lo), .int (nI hi)] X (fun rr X' => rr = nI (sgn pad len P) - nI 48 ∧ PS X' (if (w || !dgB lo hi (sgn pad len P)) = true then P else P + 1) (w || !dgB lo hi (sgn pad len P)) ∧ fQ X X') := by
  refine Ct.of [.ref 201, .int (nI lo), .int (nI hi), .null] 1 (by decide +kernel) rfl (Nat.le_of_ble_eq_true rfl) (fun F hl hC hRt _ => ?_)
  subst hl
  have hsl := sgn_le (P := P) hd
  refine g_aload_0 hC dX7_one_0 (pc' := 1) rfl ?_
  refine g_callV0R hC (c_sign hd hs hP) ml_X7_171 (sh_M ad) rfl ⟨(Nat.le_of_ble_eq_true rfl), (Nat.le_of_ble_eq_true rfl)⟩ (Nat.le_of_ble_eq_true rfl) dX7_one_1 (pc' := 4) rfl ⟨Nat.zero_le _, Nat.zero_le _⟩ ?_
  refine g_bipush hC dX7_one_4 (pc' := 6) kc_bipush_48 rfl ?_
  refine g_isub hC dX7_one_6 (pc' := 7) rfl ?_
  refine g_istore_3 hC dX7_one_7 (pc' := 8) rfl (Nat.le_of_ble_eq_true rfl) rfl ?_
  refine g_aload_0 hC dX7_one_8 (pc' := 9) rfl ?_
  refine g_aload_0 hC dX7_one_9 (pc' := 10) rfl ?_
  refine g_getI hC fl_X7_174 (sh_M ad) rfl (hs.2) dX7_one_10 (pc' := 13) rfl ?_
  refine g_ifZ_ne hC dX7_one_13 (pc' := 16) (tgt := 25) (by decide) rfl (fun h13 => ?_) (fun h13 => ?_)
  · refine g_iconst hC dX7_one_25 (pc' := 26) kc_iconst_1 rfl ?_
    refine g_goto hC dX7_one_26 (tgt := 30) (by decide) ?_
    refine g_putI hC fl_X7_174 (sh_M ad) rfl (by decide +kernel) (by decide +kernel) dX7_one_30 (pc' := 33) rfl ?_
    refine g_aload_0 hC dX7_one_33 (pc' := 34) rfl ?_
    refine g_dup hC dX7_one_34 (pc' := 35) rfl rfl ?_
    refine g_getI hC fl_X7_168 (sh_M ad) rfl ((gu_id (by decide)).trans hs.1) dX7_one_35 (pc' := 38) rfl ?_
    refine g_aload_0 hC dX7_one_38 (pc' := 39) rfl ?_
    refine g_getI hC fl_X7_174 (sh_M ad) rfl (gu_at) dX7_one_39 (pc' := 42) rfl ?_
    refine g_ifN_eq hC dX7_one_42 (pc' := 45) (tgt := 49) (by decide) rfl (by omega) (fun h42 => by omega) (fun h42 => ?_)
    refine g_iconst hC dX7_one_45 (pc' := 46) kc_iconst_0 rfl ?_
    refine g_goto hC dX7_one_46 (tgt := 50) (by decide) ?_
    refine g_iaddN hC dX7_one_50 (pc' := 51) rfl ?_
    refine g_putI hC fl_X7_168 (sh_M ad) rfl rfl rfl dX7_one_51 (pc' := 54) rfl ?_
    refine g_iload_3 hC dX7_one_54 (pc' := 55) rfl ?_
    refine g_iretI hC hRt rfl dX7_one_55 ?_
    refine ⟨rfl, ?_⟩
    first
      | (have e : (w || !dgB lo hi (sgn pad len P)) = true := by simp [*]
         rw [e]; exact PS.put1 hs.1)
      | (have e : (w || !dgB lo hi (sgn pad len P)) = false := by simp [*]
         rw [e]; exact PS.put0 hs.1)
  · refine g_iload_3 hC dX7_one_16 (pc' := 17) rfl ?_
    refine g_iload_1 hC dX7_one_17 (pc' := 18) rfl ?_
    refine g_iload_2 hC dX7_one_18 (pc' := 19) rfl ?_
    refine g_callS3R hC (c_in) ml_X7_43 ⟨(Nat.le_of_ble_eq_true rfl), (Nat.le_of_ble_eq_true rfl)⟩ (Nat.le_of_ble_eq_true rfl) dX7_one_19 (pc' := 22) rfl ⟨Nat.zero_le _, Nat.zero_le _⟩ ?_
    refine g_ifZ_ne hC dX7_one_22 (pc' := 25) (tgt := 29) (by decide) rfl (fun h22 => ?_) (fun h22 => ?_)
    · rw [dg_in hsl hlo hhi] at h22
      refine g_iconst hC dX7_one_29 (pc' := 30) kc_iconst_0 rfl ?_
      refine g_putI hC fl_X7_174 (sh_M ad) rfl (by decide +kernel) (by decide +kernel) dX7_one_30 (pc' := 33) rfl ?_
      refine g_aload_0 hC dX7_one_33 (pc' := 34) rfl ?_
      refine g_dup hC dX7_one_34 (pc' := 35) rfl rfl ?_
      refine g_getI hC fl_X7_168 (sh_M ad) rfl ((gu_id (by decide)).trans hs.1) dX7_one_35 (pc' := 38) rfl ?_
      refine g_aload_0 hC dX7_one_38 (pc' := 39) rfl ?_
      refine g_getI hC fl_X7_174 (sh_M ad) rfl (gu_at) dX7_one_39 (pc' := 42) rfl ?_
      refine g_ifN_eq hC dX7_one_42 (pc' := 45) (tgt := 49) (by decide) rfl (by omega) (fun h42 => ?_) (fun h42 => by omega)
      refine g_iconst hC dX7_one_49 (pc' := 50) kc_iconst_1 rfl ?_
      refine g_iaddN hC dX7_one_50 (pc' := 51) rfl ?_
      refine g_putI hC fl_X7_168 (sh_M ad) rfl rfl rfl dX7_one_51 (pc' := 54) rfl ?_
      refine g_iload_3 hC dX7_one_54 (pc' := 55) rfl ?_
      refine g_iretI hC hRt rfl dX7_one_55 ?_
      refine ⟨rfl, ?_⟩
      first
        | (have e : (w || !dgB lo hi (sgn pad len P)) = true := by simp [*]
           rw [e]; exact PS.put1 hs.1)
        | (have e : (w || !dgB lo hi (sgn pad len P)) = false := by simp [*]
           rw [e]; exact PS.put0 hs.1)
    · rw [dg_in hsl hlo hhi] at h22
      refine g_iconst hC dX7_one_25 (pc' := 26) kc_iconst_1 rfl ?_
      refine g_goto hC dX7_one_26 (tgt := 30) (by decide) ?_
      refine g_putI hC fl_X7_174 (sh_M ad) rfl (by decide +kernel) (by decide +kernel) dX7_one_30 (pc' := 33) rfl ?_
      refine g_aload_0 hC dX7_one_33 (pc' := 34) rfl ?_
      refine g_dup hC dX7_one_34 (pc' := 35) rfl rfl ?_
      refine g_getI hC fl_X7_168 (sh_M ad) rfl ((gu_id (by decide)).trans hs.1) dX7_one_35 (pc' := 38) rfl ?_
      refine g_aload_0 hC dX7_one_38 (pc' := 39) rfl ?_
      refine g_getI hC fl_X7_174 (sh_M ad) rfl (gu_at) dX7_one_39 (pc' := 42) rfl ?_
      refine g_ifN_eq hC dX7_one_42 (pc' := 45) (tgt := 49) (by decide) rfl (by omega) (fun h42 => by omega) (fun h42 => ?_)
      refine g_iconst hC dX7_one_45 (pc' := 46) kc_iconst_0 rfl ?_
      refine g_goto hC dX7_one_46 (tgt := 50) (by decide) ?_
      refine g_iaddN hC dX7_one_50 (pc' := 51) rfl ?_
      refine g_putI hC fl_X7_168 (sh_M ad) rfl rfl rfl dX7_one_51 (pc' := 54) rfl ?_
      refine g_iload_3 hC dX7_one_54 (pc' := 55) rfl ?_
      refine g_iretI hC hRt rfl dX7_one_55 ?_
      refine ⟨rfl, ?_⟩
      first
        | (have e : (w || !dgB lo hi (sgn pad len P)) = true := by simp [*]
           rw [e]; exact PS.put1 hs.1)
        | (have e : (w || !dgB lo hi (sgn pad len P)) = false := by simp [*]
           rw [e]; exact PS.put0 hs.1)

set_option maxHeartbeats 4000000 in
set_option maxRecDepth 100000 in
theorem c_between {l : Launch} {ad : Nat → Nat} {X : gX} {c : Nat} (hc : c ≤ 126) {pad : Nat → Nat} {len P : Nat} {w : Bool} (hd : PD X pad len) (hs : PS X P w) (hP : P ≤ 80) : K_X7_between l ad [.ref 201, .int (nI c)] X (fun X' => PS X' (if (w || !decide (sgn pad len P = c)) = true then P else P + 1) (w || !decide (sgn pad len P = c)) ∧ fQ X X') := by
  refine Ct.of [.ref 201, .int (nI c)] 0 (by decide +kernel) rfl (Nat.le_of_ble_eq_true rfl) (fun F hl hC hRt _ => ?_)
  subst hl
  have hsl := sgn_le (P := P) hd
  refine g_aload_0 hC dX7_between_0 (pc' := 1) rfl ?_
  refine g_aload_0 hC dX7_between_1 (pc' := 2) rfl ?_
  refine g_getI hC fl_X7_174 (sh_M ad) rfl (hs.2) dX7_between_2 (pc' := 5) rfl ?_
  refine g_ifZ_ne hC dX7_between_5 (pc' := 8) (tgt := 16) (by decide) rfl (fun h5 => ?_) (fun h5 => ?_)
  · refine g_iconst hC dX7_between_16 (pc' := 17) kc_iconst_1 rfl ?_
    refine g_goto hC dX7_between_17 (tgt := 21) (by decide) ?_
    refine g_putI hC fl_X7_174 (sh_M ad) rfl (by decide +kernel) (by decide +kernel) dX7_between_21 (pc' := 24) rfl ?_
    refine g_aload_0 hC dX7_between_24 (pc' := 25) rfl ?_
    refine g_dup hC dX7_between_25 (pc' := 26) rfl rfl ?_
    refine g_getI hC fl_X7_168 (sh_M ad) rfl ((gu_id (by decide)).trans hs.1) dX7_between_26 (pc' := 29) rfl ?_
    refine g_aload_0 hC dX7_between_29 (pc' := 30) rfl ?_
    refine g_getI hC fl_X7_174 (sh_M ad) rfl (gu_at) dX7_between_30 (pc' := 33) rfl ?_
    refine g_ifN_eq hC dX7_between_33 (pc' := 36) (tgt := 40) (by decide) rfl (by omega) (fun h33 => by omega) (fun h33 => ?_)
    refine g_iconst hC dX7_between_36 (pc' := 37) kc_iconst_0 rfl ?_
    refine g_goto hC dX7_between_37 (tgt := 41) (by decide) ?_
    refine g_iaddN hC dX7_between_41 (pc' := 42) rfl ?_
    refine g_putI hC fl_X7_168 (sh_M ad) rfl rfl rfl dX7_between_42 (pc' := 45) rfl ?_
    refine g_vretV hC hRt dX7_between_45 ?_
    first
      | (have e : (w || !decide (sgn pad len P = c)) = true := by simp [*]
         rw [e]; exact PS.put1 hs.1)
      | (have e : (w || !decide (sgn pad len P = c)) = false := by simp [*]
         rw [e]; exact PS.put0 hs.1)
  · refine g_aload_0 hC dX7_between_8 (pc' := 9) rfl ?_
    refine g_callV0R hC (c_sign hd hs hP) ml_X7_171 (sh_M ad) rfl ⟨(Nat.le_of_ble_eq_true rfl), (Nat.le_of_ble_eq_true rfl)⟩ (Nat.le_of_ble_eq_true rfl) dX7_between_9 (pc' := 12) rfl ⟨Nat.zero_le _, Nat.zero_le _⟩ ?_
    refine g_iload_1 hC dX7_between_12 (pc' := 13) rfl ?_
    refine g_icmpN_eq hC dX7_between_13 (pc' := 16) (tgt := 20) (by decide) rfl (by omega) (by omega) (fun h13 => ?_) (fun h13 => ?_)
    · refine g_iconst hC dX7_between_20 (pc' := 21) kc_iconst_0 rfl ?_
      refine g_putI hC fl_X7_174 (sh_M ad) rfl (by decide +kernel) (by decide +kernel) dX7_between_21 (pc' := 24) rfl ?_
      refine g_aload_0 hC dX7_between_24 (pc' := 25) rfl ?_
      refine g_dup hC dX7_between_25 (pc' := 26) rfl rfl ?_
      refine g_getI hC fl_X7_168 (sh_M ad) rfl ((gu_id (by decide)).trans hs.1) dX7_between_26 (pc' := 29) rfl ?_
      refine g_aload_0 hC dX7_between_29 (pc' := 30) rfl ?_
      refine g_getI hC fl_X7_174 (sh_M ad) rfl (gu_at) dX7_between_30 (pc' := 33) rfl ?_
      refine g_ifN_eq hC dX7_between_33 (pc' := 36) (tgt := 40) (by decide) rfl (by omega) (fun h33 => ?_) (fun h33 => by omega)
      refine g_iconst hC dX7_between_40 (pc' := 41) kc_iconst_1 rfl ?_
      refine g_iaddN hC dX7_between_41 (pc' := 42) rfl ?_
      refine g_putI hC fl_X7_168 (sh_M ad) rfl rfl rfl dX7_between_42 (pc' := 45) rfl ?_
      refine g_vretV hC hRt dX7_between_45 ?_
      first
        | (have e : (w || !decide (sgn pad len P = c)) = true := by simp [*]
           rw [e]; exact PS.put1 hs.1)
        | (have e : (w || !decide (sgn pad len P = c)) = false := by simp [*]
           rw [e]; exact PS.put0 hs.1)
    · refine g_iconst hC dX7_between_16 (pc' := 17) kc_iconst_1 rfl ?_
      refine g_goto hC dX7_between_17 (tgt := 21) (by decide) ?_
      refine g_putI hC fl_X7_174 (sh_M ad) rfl (by decide +kernel) (by decide +kernel) dX7_between_21 (pc' := 24) rfl ?_
      refine g_aload_0 hC dX7_between_24 (pc' := 25) rfl ?_
      refine g_dup hC dX7_between_25 (pc' := 26) rfl rfl ?_
      refine g_getI hC fl_X7_168 (sh_M ad) rfl ((gu_id (by decide)).trans hs.1) dX7_between_26 (pc' := 29) rfl ?_
      refine g_aload_0 hC dX7_between_29 (pc' := 30) rfl ?_
      refine g_getI hC fl_X7_174 (sh_M ad) rfl (gu_at) dX7_between_30 (pc' := 33) rfl ?_
      refine g_ifN_eq hC dX7_between_33 (pc' := 36) (tgt := 40) (by decide) rfl (by omega) (fun h33 => by omega) (fun h33 => ?_)
      refine g_iconst hC dX7_between_36 (pc' := 37) kc_iconst_0 rfl ?_
      refine g_goto hC dX7_between_37 (tgt := 41) (by decide) ?_
      refine g_iaddN hC dX7_between_41 (pc' := 42) rfl ?_
      refine g_putI hC fl_X7_168 (sh_M ad) rfl rfl rfl dX7_between_42 (pc' := 45) rfl ?_
      refine g_vretV hC hRt dX7_between_45 ?_
      first
        | (have e : (w || !decide (sgn pad len P = c)) = true := by simp [*]
           rw [e]; exact PS.put1 hs.1)
        | (have e : (w || !decide (sgn pad len P = c)) = false := by simp [*]
           rw [e]; exact PS.put0 hs.1)
