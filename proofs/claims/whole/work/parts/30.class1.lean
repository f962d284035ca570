/-! the class's sheet: it holds a mark as 32 v + 2 s + struck -/
def em (m : Nat) : Nat := 32 * (m / 20) + m % 20
theorem em_v (m : Nat) : em m / 32 = m / 20 := by unfold em; omega
theorem em_s (m : Nat) : em m / 2 % 16 = m / 2 % 10 := by unfold em; omega
theorem em_t (m : Nat) : em m % 2 = m % 2 := by unfold em; omega
theorem em_lt {m : Nat} (h : m < 20000) : em m < 40000 := by unfold em; omega
def SS (X : gX) (b : Nat) (g : Nat → Nat) (t : Nat) : Prop := (X b 0 = nI (g (4 + t)) ∧ X b 1 = nI (g (9 + t)) ∧ X b 2 = nI (g (14 + t))) ∧ (∀ f, f < 10 → X (b + 1) f = nI (cnt g t f)) ∧ ∀ f k, f < 10 → k < 8 → k < cnt g t f → X (b + 2) (f * 8 + k) = nI (em (mk g t f k))
theorem upto_f {P : Nat → Bool} {k : Nat} (h : P k = false) : upto P (k + 1) = upto P k := by
  show (if P k = true then k + 1 else upto P k) = _
  rw [if_neg (by rw [h]; decide)]
theorem upto_t {P : Nat → Bool} {k : Nat} (h : P k = true) : upto P (k + 1) = k + 1 := by
  show (if P k = true then k + 1 else upto P k) = _
  rw [if_pos h]
theorem msk_f {P : Nat → Bool} {k : Nat} (h : P k = false) : msk P (k + 1) = msk P k := by
  show (msk P k ||| (if P k = true then 2 ^ k else 0)) = _
  rw [h]
  exact Nat.or_zero _
theorem msk_t {P : Nat → Bool} {k : Nat} (h : P k = true) : msk P (k + 1) = msk P k ||| 2 ^ k := by
  show (msk P k ||| (if P k = true then 2 ^ k else 0)) = _
  rw [h]
  rfl
/-- the strongest that can be read -/
def strng (g : Nat → Nat) (t f : Nat) : Nat → Nat := mxN (fun k => if rd g t f k = true then mk g t f k / 2 % 10 else 0)
theorem strng_s (g : Nat → Nat) (t f k : Nat) : strng g t f (k + 1) = max (strng g t f k) (if rd g t f k = true then mk g t f k / 2 % 10 else 0) := rfl
theorem cnB_all {P : Nat → Bool} : ∀ {n : Nat}, (∀ k, k < n → P k = true) → cnB P n = n := by
  intro n
  induction n with
  | zero => intro _; rfl
  | succ n ih => intro h; unfold cnB; rw [ih (fun k hk => h k (by omega)), h n (by omega)]; rfl

set_option maxHeartbeats 4000000 in
set_option maxRecDepth 100000 in
theorem c_sRoom {l : Launch} {ad : Nat → Nat} {X : gX} {B t f c : Nat} (hB : isB B) (ht : t < 5) (hf : f < 10) (hc : X (B + 4 + 3 * t + 1) f = nI c) (hc8 : c ≤ 8) : K_X3_hasRoom l ad [.ref (B + 4 + 3 * t), .int (nI f)] X (pR X (zI (decide (c < 8)))) := by
  refine Ct.of [.ref (B + 4 + 3 * t), .int (nI f)] 0 (by decide +kernel) rfl (Nat.le_of_ble_eq_true rfl) (fun F hl hC hRt _ => ?_)
  subst hl
  refine g_aload_0 hC dX3_hasRoom_0 (pc' := 1) rfl ?_
  refine g_getR hC fl_X3_21 (sh_sheet ad hB ht) rfl dX3_hasRoom_1 (pc' := 4) rfl ?_
  refine g_iload_1 hC dX3_hasRoom_4 (pc' := 5) rfl ?_
  refine g_iald hC (sh_counts ad hB ht) (Nat.le_of_ble_eq_true rfl) (by omega) (hc) dX3_hasRoom_5 (pc' := 6) rfl ?_
  refine g_bipush hC dX3_hasRoom_6 (pc' := 8) kc_bipush_8 rfl ?_
  refine g_icmpN_ge hC dX3_hasRoom_8 (pc' := 11) (tgt := 15) (by decide) rfl (by omega) (by omega) (fun h8 => ?_) (fun h8 => ?_)
  · refine g_iconst hC dX3_hasRoom_15 (pc' := 16) kc_iconst_0 rfl ?_
    refine g_iretR hC hRt nz_0 dX3_hasRoom_16 (nI0_z ?_)
    simp; omega
  · refine g_iconst hC dX3_hasRoom_11 (pc' := 12) kc_iconst_1 rfl ?_
    refine g_goto hC dX3_hasRoom_12 (tgt := 16) (by decide) ?_
    refine g_iretR hC hRt nz_1 dX3_hasRoom_16 (nI1_z ?_)
    simp; omega

set_option maxHeartbeats 4000000 in
set_option maxRecDepth 100000 in
theorem c_sValue {l : Launch} {ad : Nat → Nat} {X : gX} {B t : Nat} {g : Nat → Nat} (hB : isB B) (ht : t < 5) (hS : SS X (B + 4 + 3 * t) g t) (hI : Inv g) {f : Nat} (hf : f < 10) {k : Nat} (hk : k < cnt g t f)  : K_X3_valueAt l ad [.ref (B + 4 + 3 * t), .int (nI f), .int (nI k)] X (pR X (nI (mk g t f k / 20))) := by
  refine Ct.of [.ref (B + 4 + 3 * t), .int (nI f), .int (nI k)] 0 (by decide +kernel) rfl (Nat.le_of_ble_eq_true rfl) (fun F hl hC hRt _ => ?_)
  subst hl
  have bc := hI.c ht hf
  have bm := em_lt (hI.m ht hf (show k < 8 by omega))
  refine g_aload_0 hC dX3_valueAt_0 (pc' := 1) rfl ?_
  refine g_getR hC fl_X3_25 (sh_sheet ad hB ht) rfl dX3_valueAt_1 (pc' := 4) rfl ?_
  refine g_iload_1 hC dX3_valueAt_4 (pc' := 5) rfl ?_
  refine g_bipush hC dX3_valueAt_5 (pc' := 7) kc_bipush_8 rfl ?_
  refine g_imulN hC dX3_valueAt_7 (pc' := 8) rfl ?_
  refine g_iload_2 hC dX3_valueAt_8 (pc' := 9) rfl ?_
  refine g_iaddN hC dX3_valueAt_9 (pc' := 10) rfl ?_
  refine g_iald hC (sh_marks ad hB ht) (Nat.le_of_ble_eq_true rfl) (by omega) (hS.2.2 f k hf (by omega) (by omega)) dX3_valueAt_10 (pc' := 11) rfl ?_
  refine g_iconst hC dX3_valueAt_11 (pc' := 12) kc_iconst_5 rfl ?_
  refine g_ishrK hC dX3_valueAt_12 (pc' := 13) rfl (by decide) (q := 32) (by decide) (by omega) ?_
  refine g_iretR hC hRt rfl dX3_valueAt_13 ?_
  rw [em_v]

set_option maxHeartbeats 4000000 in
set_option maxRecDepth 100000 in
theorem c_sStrength {l : Launch} {ad : Nat → Nat} {X : gX} {B t : Nat} {g : Nat → Nat} (hB : isB B) (ht : t < 5) (hS : SS X (B + 4 + 3 * t) g t) (hI : Inv g) {f : Nat} (hf : f < 10) {k : Nat} (hk : k < cnt g t f)  : K_X3_strengthAt l ad [.ref (B + 4 + 3 * t), .int (nI f), .int (nI k)] X (pR X (nI (mk g t f k / 2 % 10))) := by
  refine Ct.of [.ref (B + 4 + 3 * t), .int (nI f), .int (nI k)] 0 (by decide +kernel) rfl (Nat.le_of_ble_eq_true rfl) (fun F hl hC hRt _ => ?_)
  subst hl
  have bc := hI.c ht hf
  have bm := em_lt (hI.m ht hf (show k < 8 by omega))
  refine g_aload_0 hC dX3_strengthAt_0 (pc' := 1) rfl ?_
  refine g_getR hC fl_X3_25 (sh_sheet ad hB ht) rfl dX3_strengthAt_1 (pc' := 4) rfl ?_
  refine g_iload_1 hC dX3_strengthAt_4 (pc' := 5) rfl ?_
  refine g_bipush hC dX3_strengthAt_5 (pc' := 7) kc_bipush_8 rfl ?_
  refine g_imulN hC dX3_strengthAt_7 (pc' := 8) rfl ?_
  refine g_iload_2 hC dX3_strengthAt_8 (pc' := 9) rfl ?_
  refine g_iaddN hC dX3_strengthAt_9 (pc' := 10) rfl ?_
  refine g_iald hC (sh_marks ad hB ht) (Nat.le_of_ble_eq_true rfl) (by omega) (hS.2.2 f k hf (by omega) (by omega)) dX3_strengthAt_10 (pc' := 11) rfl ?_
  refine g_iconst hC dX3_strengthAt_11 (pc' := 12) kc_iconst_1 rfl ?_
  refine g_ishrK hC dX3_strengthAt_12 (pc' := 13) rfl (by decide) (q := 2) (by decide) (by omega) ?_
  refine g_bipush hC dX3_strengthAt_13 (pc' := 15) kc_bipush_15 rfl ?_
  refine g_iand15 hC dX3_strengthAt_15 (pc' := 16) rfl ?_
  refine g_iretR hC hRt rfl dX3_strengthAt_16 ?_
  rw [em_s]

set_option maxHeartbeats 4000000 in
set_option maxRecDepth 100000 in
theorem c_sStruck {l : Launch} {ad : Nat → Nat} {X : gX} {B t : Nat} {g : Nat → Nat} (hB : isB B) (ht : t < 5) (hS : SS X (B + 4 + 3 * t) g t) (hI : Inv g) {f : Nat} (hf : f < 10) {k : Nat} (hk : k < cnt g t f)  : K_X3_isStruck l ad [.ref (B + 4 + 3 * t), .int (nI f), .int (nI k)] X (pR X (zI (decide (mk g t f k % 2 = 1)))) := by
  refine Ct.of [.ref (B + 4 + 3 * t), .int (nI f), .int (nI k)] 0 (by decide +kernel) rfl (Nat.le_of_ble_eq_true rfl) (fun F hl hC hRt _ => ?_)
  subst hl
  have bc := hI.c ht hf
  have bm := em_lt (hI.m ht hf (show k < 8 by omega))
  have e := em_t (mk g t f k)
  refine g_aload_0 hC dX3_isStruck_0 (pc' := 1) rfl ?_
  refine g_getR hC fl_X3_25 (sh_sheet ad hB ht) rfl dX3_isStruck_1 (pc' := 4) rfl ?_
  refine g_iload_1 hC dX3_isStruck_4 (pc' := 5) rfl ?_
  refine g_bipush hC dX3_isStruck_5 (pc' := 7) kc_bipush_8 rfl ?_
  refine g_imulN hC dX3_isStruck_7 (pc' := 8) rfl ?_
  refine g_iload_2 hC dX3_isStruck_8 (pc' := 9) rfl ?_
  refine g_iaddN hC dX3_isStruck_9 (pc' := 10) rfl ?_
  refine g_iald hC (sh_marks ad hB ht) (Nat.le_of_ble_eq_true rfl) (by omega) (hS.2.2 f k hf (by omega) (by omega)) dX3_isStruck_10 (pc' := 11) rfl ?_
  refine g_iconst hC dX3_isStruck_11 (pc' := 12) kc_iconst_1 rfl ?_
  refine g_iand1 hC dX3_isStruck_12 (pc' := 13) rfl ?_
  refine g_ifN_eq hC dX3_isStruck_13 (pc' := 16) (tgt := 20) (by decide) rfl (by omega) (fun h13 => ?_) (fun h13 => ?_)
  · refine g_iconst hC dX3_isStruck_20 (pc' := 21) kc_iconst_0 rfl ?_
    refine g_iretR hC hRt nz_0 dX3_isStruck_21 (nI0_z ?_)
    simp; omega
  · refine g_iconst hC dX3_isStruck_16 (pc' := 17) kc_iconst_1 rfl ?_
    refine g_goto hC dX3_isStruck_17 (tgt := 21) (by decide) ?_
    refine g_iretR hC hRt nz_1 dX3_isStruck_21 (nI1_z ?_)
    simp; omega

set_option maxHeartbeats 4000000 in
set_option maxRecDepth 100000 in
theorem c_sReadable {l : Launch} {ad : Nat → Nat} {X : gX} {B t : Nat} {g : Nat → Nat} (hB : isB B) (ht : t < 5) (hS : SS X (B + 4 + 3 * t) g t) (hI : Inv g) {f : Nat} (hf : f < 10) {k : Nat} (hk : k < cnt g t f)  : K_X3_isReadable l ad [.ref (B + 4 + 3 * t), .int (nI f), .int (nI k), .int (nI (g 0))] X (pR X (zI (rd g t f k))) := by
  refine Ct.of [.ref (B + 4 + 3 * t), .int (nI f), .int (nI k), .int (nI (g 0)), .null] 1 (by decide +kernel) rfl (Nat.le_of_ble_eq_true rfl) (fun F hl hC hRt _ => ?_)
  subst hl
  have bc := hI.c ht hf
  have b0 := hI.1.1
  have bm := em_lt (hI.m ht hf (show k < 8 by omega))
  have e := em_t (mk g t f k)
  have e2 := em_s (mk g t f k)
  refine g_aload_0 hC dX3_isReadable_0 (pc' := 1) rfl ?_
  refine g_getR hC fl_X3_25 (sh_sheet ad hB ht) rfl dX3_isReadable_1 (pc' := 4) rfl ?_
  refine g_iload_1 hC dX3_isReadable_4 (pc' := 5) rfl ?_
  refine g_bipush hC dX3_isReadable_5 (pc' := 7) kc_bipush_8 rfl ?_
  refine g_imulN hC dX3_isReadable_7 (pc' := 8) rfl ?_
  refine g_iload_2 hC dX3_isReadable_8 (pc' := 9) rfl ?_
  refine g_iaddN hC dX3_isReadable_9 (pc' := 10) rfl ?_
  refine g_iald hC (sh_marks ad hB ht) (Nat.le_of_ble_eq_true rfl) (by omega) (hS.2.2 f k hf (by omega) (by omega)) dX3_isReadable_10 (pc' := 11) rfl ?_
  refine g_istore_4 hC dX3_isReadable_11 (pc' := 13) rfl (Nat.le_of_ble_eq_true rfl) rfl ?_
  refine g_iload_4 hC dX3_isReadable_13 (pc' := 15) rfl ?_
  refine g_iconst hC dX3_isReadable_15 (pc' := 16) kc_iconst_1 rfl ?_
  refine g_iand1 hC dX3_isReadable_16 (pc' := 17) rfl ?_
  refine g_ifN_ne hC dX3_isReadable_17 (pc' := 20) (tgt := 35) (by decide) rfl (by omega) (fun h17 => ?_) (fun h17 => ?_)
  · refine g_iconst hC dX3_isReadable_35 (pc' := 36) kc_iconst_0 rfl ?_
    refine g_iretR hC hRt nz_0 dX3_isReadable_36 (nI0_z ?_)
    simp [rd, rdb]; omega
  · refine g_iload_4 hC dX3_isReadable_20 (pc' := 22) rfl ?_
    refine g_iconst hC dX3_isReadable_22 (pc' := 23) kc_iconst_1 rfl ?_
    refine g_ishrK hC dX3_isReadable_23 (pc' := 24) rfl (by decide) (q := 2) (by decide) (by omega) ?_
    refine g_bipush hC dX3_isReadable_24 (pc' := 26) kc_bipush_15 rfl ?_
    refine g_iand15 hC dX3_isReadable_26 (pc' := 27) rfl ?_
    refine g_iload_3 hC dX3_isReadable_27 (pc' := 28) rfl ?_
    refine g_icmpN_lt hC dX3_isReadable_28 (pc' := 31) (tgt := 35) (by decide) rfl (by omega) (by omega) (fun h28 => ?_) (fun h28 => ?_)
    · refine g_iconst hC dX3_isReadable_35 (pc' := 36) kc_iconst_0 rfl ?_
      refine g_iretR hC hRt nz_0 dX3_isReadable_36 (nI0_z ?_)
      simp [rd, rdb]; omega
    · refine g_iconst hC dX3_isReadable_31 (pc' := 32) kc_iconst_1 rfl ?_
      refine g_goto hC dX3_isReadable_32 (tgt := 36) (by decide) ?_
      refine g_iretR hC hRt nz_1 dX3_isReadable_36 (nI1_z ?_)
      simp [rd, rdb]; omega

set_option maxHeartbeats 4000000 in
set_option maxRecDepth 100000 in
theorem c_sLast {l : Launch} {ad : Nat → Nat} {X : gX} {B t : Nat} {g : Nat → Nat} (hB : isB B) (ht : t < 5) (hS : SS X (B + 4 + 3 * t) g t) (hI : Inv g) {f : Nat} (hf : f < 10)  : K_X3_lastReadable l ad [.ref (B + 4 + 3 * t), .int (nI f), .int (nI (g 0))] X (pR X (oI (last g t f))) := by
  refine Ct.of [.ref (B + 4 + 3 * t), .int (nI f), .int (nI (g 0)), .null] 1 (by decide +kernel) rfl (Nat.le_of_ble_eq_true rfl) (fun F hl hC hRt _ => ?_)
  subst hl
  have bc := hI.c ht hf
  refine g_aload_0 hC dX3_lastReadable_0 (pc' := 1) rfl ?_
  refine g_getR hC fl_X3_21 (sh_sheet ad hB ht) rfl dX3_lastReadable_1 (pc' := 4) rfl ?_
  refine g_iload_1 hC dX3_lastReadable_4 (pc' := 5) rfl ?_
  refine g_iald hC (sh_counts ad hB ht) (Nat.le_of_ble_eq_true rfl) (by omega) (hS.2.1 f (by omega)) dX3_lastReadable_5 (pc' := 6) rfl ?_
  refine g_iconst hC dX3_lastReadable_6 (pc' := 7) kc_iconst_1 rfl ?_
  refine g_isub hC dX3_lastReadable_7 (pc' := 8) rfl ?_
  refine g_istore_3 hC dX3_lastReadable_8 (pc' := 9) rfl (Nat.le_of_ble_eq_true rfl) rfl ?_
  have L9 : ∀ j, j ≤ cnt g t f → last g t f = upto (rd g t f) (cnt g t f - j) → G F (S0 ad) (0, 0) X 9 [.ref (B + 4 + 3 * t), .int (nI f), .int (nI (g 0)), .int (lI (cnt g t f - j))] [] := by
    refine up_ind _ (fun j hk9 ih9 => ?_)
    intro hu
    refine g_iload_3 hC dX3_lastReadable_9 (pc' := 10) rfl ?_
    refine g_if_lt hC dX3_lastReadable_10 (pc' := 13) (tgt := 31) (by decide) rfl (fun h10 => ?_) (fun h10 => ?_)
    · rw [lI_neg (by omega)] at h10
      refine g_bipush hC dX3_lastReadable_31 (pc' := 33) kc_bipush_m6 rfl ?_
      refine g_iretR hC hRt rfl dX3_lastReadable_33 ?_
      rw [hu, h10]; rfl
    · rw [lI_neg (by omega)] at h10
      rw [lI_pos (show 1 ≤ cnt g t f - j by omega)]
      refine g_aload_0 hC dX3_lastReadable_13 (pc' := 14) rfl ?_
      refine g_iload_1 hC dX3_lastReadable_14 (pc' := 15) rfl ?_
      refine g_iload_3 hC dX3_lastReadable_15 (pc' := 16) rfl ?_
      refine g_iload_2 hC dX3_lastReadable_16 (pc' := 17) rfl ?_
      refine g_callV3R hC (c_sReadable hB ht hS hI hf (k := cnt g t f - j - 1) (by omega)) ml_X3_46 (sh_sheet ad hB ht) rfl ⟨(Nat.le_of_ble_eq_true rfl), (Nat.le_of_ble_eq_true rfl)⟩ (Nat.le_of_ble_eq_true rfl) dX3_lastReadable_17 (pc' := 20) rfl ⟨Nat.zero_le _, Nat.zero_le _⟩ ?_
      refine g_ifZ_eq hC dX3_lastReadable_20 (pc' := 23) (tgt := 25) (by decide) rfl (fun h20 => ?_) (fun h20 => ?_)
      · refine g_iinc_3 hC dX3_lastReadable_25 (pc' := 28) rfl (Nat.le_of_ble_eq_true rfl) rfl (nI_lI kc_iinc_m1) ?_
        refine g_goto hC dX3_lastReadable_28 (tgt := 9) (by decide) ?_
        exact g_weak (ih9 (by omega) (by rw [hu, show cnt g t f - j = cnt g t f - j - 1 + 1 by omega, upto_f h20]; rfl)) (gle_s (gle_s (gle_s (gle_i (by rfl) gle_nil))))
      · refine g_iload_3 hC dX3_lastReadable_23 (pc' := 24) rfl ?_
        refine g_iretR hC hRt rfl dX3_lastReadable_24 ?_
        rw [hu, show cnt g t f - j = cnt g t f - j - 1 + 1 by omega, upto_t h20]; rfl
  exact g_weak (L9 0 (by exact Nat.zero_le _) rfl) (gle_s (gle_s (gle_s (gle_i (by rfl) gle_nil))))

set_option maxHeartbeats 4000000 in
set_option maxRecDepth 100000 in
theorem c_sReads {l : Launch} {ad : Nat → Nat} {X : gX} {B t : Nat} {g : Nat → Nat} (hB : isB B) (ht : t < 5) (hS : SS X (B + 4 + 3 * t) g t) (hI : Inv g) {f : Nat} (hf : f < 10)  : K_X3_readableMarks l ad [.ref (B + 4 + 3 * t), .int (nI f), .int (nI (g 0))] X (pR X (nI (cnB (rd g t f) (cnt g t f)))) := by
  refine Ct.of [.ref (B + 4 + 3 * t), .int (nI f), .int (nI (g 0)), .null, .null] 2 (by decide +kernel) rfl (Nat.le_of_ble_eq_true rfl) (fun F hl hC hRt _ => ?_)
  subst hl
  have bc := hI.c ht hf
  refine g_iconst hC dX3_readableMarks_0 (pc' := 1) kc_iconst_0 rfl ?_
  refine g_istore_3 hC dX3_readableMarks_1 (pc' := 2) rfl (Nat.le_of_ble_eq_true rfl) rfl ?_
  refine g_iconst hC dX3_readableMarks_2 (pc' := 3) kc_iconst_0 rfl ?_
  refine g_istore_4 hC dX3_readableMarks_3 (pc' := 5) rfl (Nat.le_of_ble_eq_true rfl) rfl ?_
  have L5 : ∀ k, k ≤ cnt g t f → G F (S0 ad) (0, 0) X 5 [.ref (B + 4 + 3 * t), .int (nI f), .int (nI (g 0)), .int (nI (cnB (rd g t f) k)), .int (nI k)] [] := by
    refine up_ind _ (fun k hk5 ih5 => ?_)
    refine g_iload_4 hC dX3_readableMarks_5 (pc' := 7) rfl ?_
    refine g_aload_0 hC dX3_readableMarks_7 (pc' := 8) rfl ?_
    refine g_getR hC fl_X3_21 (sh_sheet ad hB ht) rfl dX3_readableMarks_8 (pc' := 11) rfl ?_
    refine g_iload_1 hC dX3_readableMarks_11 (pc' := 12) rfl ?_
    refine g_iald hC (sh_counts ad hB ht) (Nat.le_of_ble_eq_true rfl) (by omega) (hS.2.1 f (by omega)) dX3_readableMarks_12 (pc' := 13) rfl ?_
    refine g_icmpN_ge hC dX3_readableMarks_13 (pc' := 16) (tgt := 36) (by decide) rfl (by omega) (by omega) (fun h13 => ?_) (fun h13 => ?_)
    · refine g_iload_3 hC dX3_readableMarks_36 (pc' := 37) rfl ?_
      refine g_iretR hC hRt rfl dX3_readableMarks_37 ?_
      rw [show k = cnt g t f by omega]
    · refine g_aload_0 hC dX3_readableMarks_16 (pc' := 17) rfl ?_
      refine g_iload_1 hC dX3_readableMarks_17 (pc' := 18) rfl ?_
      refine g_iload_4 hC dX3_readableMarks_18 (pc' := 20) rfl ?_
      refine g_iload_2 hC dX3_readableMarks_20 (pc' := 21) rfl ?_
      refine g_callV3R hC (c_sReadable hB ht hS hI hf (k := k) (by omega)) ml_X3_46 (sh_sheet ad hB ht) rfl ⟨(Nat.le_of_ble_eq_true rfl), (Nat.le_of_ble_eq_true rfl)⟩ (Nat.le_of_ble_eq_true rfl) dX3_readableMarks_21 (pc' := 24) rfl ⟨Nat.zero_le _, Nat.zero_le _⟩ ?_
      refine g_ifZ_eq hC dX3_readableMarks_24 (pc' := 27) (tgt := 30) (by decide) rfl (fun h24 => ?_) (fun h24 => ?_)
      · refine g_iinc_4 hC dX3_readableMarks_30 (pc' := 33) rfl (Nat.le_of_ble_eq_true rfl) rfl (nI_inc _ _ kc_iinc_1) ?_
        refine g_goto hC dX3_readableMarks_33 (tgt := 5) (by decide) ?_
        exact g_weak (ih5 (by omega)) (gle_s (gle_s (gle_s (gle_i (by first | exact congrArg nI (cnB_t h24) | exact congrArg nI (cnB_f h24)) (gle_i (by first | rfl | omega) gle_nil)))))
      · refine g_iinc_3 hC dX3_readableMarks_27 (pc' := 30) rfl (Nat.le_of_ble_eq_true rfl) rfl (nI_inc _ _ kc_iinc_1) ?_
        refine g_iinc_4 hC dX3_readableMarks_30 (pc' := 33) rfl (Nat.le_of_ble_eq_true rfl) rfl (nI_inc _ _ kc_iinc_1) ?_
        refine g_goto hC dX3_readableMarks_33 (tgt := 5) (by decide) ?_
        exact g_weak (ih5 (by omega)) (gle_s (gle_s (gle_s (gle_i (by first | exact congrArg nI (cnB_t h24) | exact congrArg nI (cnB_f h24)) (gle_i (by first | rfl | omega) gle_nil)))))
  exact g_weak (L5 0 (by exact Nat.zero_le _)) (gle_s (gle_s (gle_s (gle_i (by rfl) (gle_s gle_nil)))))

set_option maxHeartbeats 4000000 in
set_option maxRecDepth 100000 in
theorem c_sStrongest {l : Launch} {ad : Nat → Nat} {X : gX} {B t : Nat} {g : Nat → Nat} (hB : isB B) (ht : t < 5) (hS : SS X (B + 4 + 3 * t) g t) (hI : Inv g) {f : Nat} (hf : f < 10)  : K_X3_strongestReadable l ad [.ref (B + 4 + 3 * t), .int (nI f), .int (nI (g 0))] X (pR X (nI (strng g t f (cnt g t f)))) := by
  refine Ct.of [.ref (B + 4 + 3 * t), .int (nI f), .int (nI (g 0)), .null, .null] 2 (by decide +kernel) rfl (Nat.le_of_ble_eq_true rfl) (fun F hl hC hRt _ => ?_)
  subst hl
  have bc := hI.c ht hf
  refine g_iconst hC dX3_strongestReadable_0 (pc' := 1) kc_iconst_0 rfl ?_
  refine g_istore_3 hC dX3_strongestReadable_1 (pc' := 2) rfl (Nat.le_of_ble_eq_true rfl) rfl ?_
  refine g_iconst hC dX3_strongestReadable_2 (pc' := 3) kc_iconst_0 rfl ?_
  refine g_istore_4 hC dX3_strongestReadable_3 (pc' := 5) rfl (Nat.le_of_ble_eq_true rfl) rfl ?_
  have L5 : ∀ k, k ≤ cnt g t f → G F (S0 ad) (0, 0) X 5 [.ref (B + 4 + 3 * t), .int (nI f), .int (nI (g 0)), .int (nI (strng g t f k)), .int (nI k)] [] := by
    refine up_ind _ (fun k hk5 ih5 => ?_)
    have bst : strng g t f k ≤ 10 := mxN_le k (fun j hj => by split <;> omega)
    refine g_iload_4 hC dX3_strongestReadable_5 (pc' := 7) rfl ?_
    refine g_aload_0 hC dX3_strongestReadable_7 (pc' := 8) rfl ?_
    refine g_getR hC fl_X3_21 (sh_sheet ad hB ht) rfl dX3_strongestReadable_8 (pc' := 11) rfl ?_
    refine g_iload_1 hC dX3_strongestReadable_11 (pc' := 12) rfl ?_
    refine g_iald hC (sh_counts ad hB ht) (Nat.le_of_ble_eq_true rfl) (by omega) (hS.2.1 f (by omega)) dX3_strongestReadable_12 (pc' := 13) rfl ?_
    refine g_icmpN_ge hC dX3_strongestReadable_13 (pc' := 16) (tgt := 45) (by decide) rfl (by omega) (by omega) (fun h13 => ?_) (fun h13 => ?_)
    · refine g_iload_3 hC dX3_strongestReadable_45 (pc' := 46) rfl ?_
      refine g_iretR hC hRt rfl dX3_strongestReadable_46 ?_
      rw [show k = cnt g t f by omega]
    · refine g_aload_0 hC dX3_strongestReadable_16 (pc' := 17) rfl ?_
      refine g_iload_1 hC dX3_strongestReadable_17 (pc' := 18) rfl ?_
      refine g_iload_4 hC dX3_strongestReadable_18 (pc' := 20) rfl ?_
      refine g_iload_2 hC dX3_strongestReadable_20 (pc' := 21) rfl ?_
      refine g_callV3R hC (c_sReadable hB ht hS hI hf (k := k) (by omega)) ml_X3_46 (sh_sheet ad hB ht) rfl ⟨(Nat.le_of_ble_eq_true rfl), (Nat.le_of_ble_eq_true rfl)⟩ (Nat.le_of_ble_eq_true rfl) dX3_strongestReadable_21 (pc' := 24) rfl ⟨Nat.zero_le _, Nat.zero_le _⟩ ?_
      refine g_ifZ_eq hC dX3_strongestReadable_24 (pc' := 27) (tgt := 39) (by decide) rfl (fun h24 => ?_) (fun h24 => ?_)
      · refine g_iinc_4 hC dX3_strongestReadable_39 (pc' := 42) rfl (Nat.le_of_ble_eq_true rfl) rfl (nI_inc _ _ kc_iinc_1) ?_
        refine g_goto hC dX3_strongestReadable_42 (tgt := 5) (by decide) ?_
        exact g_weak (ih5 (by omega)) (gle_s (gle_s (gle_s (gle_i (by first | rw [strng_s, if_pos h24] | (rw [strng_s, if_neg (by rw [h24]; decide)]; exact congrArg nI (Nat.max_eq_left (Nat.zero_le _)))) (gle_i (by first | rfl | omega) gle_nil)))))
      · refine g_iload_3 hC dX3_strongestReadable_27 (pc' := 28) rfl ?_
        refine g_aload_0 hC dX3_strongestReadable_28 (pc' := 29) rfl ?_
        refine g_iload_1 hC dX3_strongestReadable_29 (pc' := 30) rfl ?_
        refine g_iload_4 hC dX3_strongestReadable_30 (pc' := 32) rfl ?_
        refine g_callV2R hC (c_sStrength hB ht hS hI hf (k := k) (by omega)) ml_X3_42 (sh_sheet ad hB ht) rfl ⟨(Nat.le_of_ble_eq_true rfl), (Nat.le_of_ble_eq_true rfl)⟩ (Nat.le_of_ble_eq_true rfl) dX3_strongestReadable_32 (pc' := 35) rfl ⟨Nat.zero_le _, Nat.zero_le _⟩ ?_
        refine g_mmaxN hC ml_X3_50 ⟨(Nat.le_of_ble_eq_true rfl), (Nat.le_of_ble_eq_true rfl)⟩ ⟨Nat.zero_le _, Nat.zero_le _⟩ dX3_strongestReadable_35 (pc' := 38) rfl (by omega) (by omega) ?_
        refine g_istore_3 hC dX3_strongestReadable_38 (pc' := 39) rfl (Nat.le_of_ble_eq_true rfl) rfl ?_
        refine g_iinc_4 hC dX3_strongestReadable_39 (pc' := 42) rfl (Nat.le_of_ble_eq_true rfl) rfl (nI_inc _ _ kc_iinc_1) ?_
        refine g_goto hC dX3_strongestReadable_42 (tgt := 5) (by decide) ?_
        exact g_weak (ih5 (by omega)) (gle_s (gle_s (gle_s (gle_i (by first | rw [strng_s, if_pos h24] | (rw [strng_s, if_neg (by rw [h24]; decide)]; exact congrArg nI (Nat.max_eq_left (Nat.zero_le _)))) (gle_i (by first | rfl | omega) gle_nil)))))
  exact g_weak (L5 0 (by exact Nat.zero_le _)) (gle_s (gle_s (gle_s (gle_i (by rfl) (gle_s gle_nil)))))

set_option maxHeartbeats 4000000 in
set_option maxRecDepth 100000 in
theorem c_sKind {l : Launch} {ad : Nat → Nat} {X : gX} {B t : Nat} {g : Nat → Nat} (hB : isB B) (ht : t < 5) (hS : SS X (B + 4 + 3 * t) g t) (hI : Inv g) {f : Nat} (hf : f < 10)  : K_X3_kindOf l ad [.ref (B + 4 + 3 * t), .int (nI f), .int (nI (g 0)), .int (nI (g 1))] X (pR X (nI (kind g t f))) := by
  refine Ct.of [.ref (B + 4 + 3 * t), .int (nI f), .int (nI (g 0)), .int (nI (g 1)), .null, .null, .null, .null] 4 (by decide +kernel) rfl (Nat.le_of_ble_eq_true rfl) (fun F hl hC hRt _ => ?_)
  subst hl
  have bc := hI.c ht hf
  have bl := last_le g t f
  have b1 := hI.1
  refine g_aload_0 hC dX3_kindOf_0 (pc' := 1) rfl ?_
  refine g_iload_1 hC dX3_kindOf_1 (pc' := 2) rfl ?_
  refine g_iload_2 hC dX3_kindOf_2 (pc' := 3) rfl ?_
  refine g_callV2R hC (c_sLast hB ht hS hI hf) ml_X3_55 (sh_sheet ad hB ht) rfl ⟨(Nat.le_of_ble_eq_true rfl), (Nat.le_of_ble_eq_true rfl)⟩ (Nat.le_of_ble_eq_true rfl) dX3_kindOf_3 (pc' := 6) rfl ⟨Nat.zero_le _, Nat.zero_le _⟩ ?_
  refine g_istore_4 hC dX3_kindOf_6 (pc' := 8) rfl (Nat.le_of_ble_eq_true rfl) rfl ?_
  refine g_iload_4 hC dX3_kindOf_8 (pc' := 10) rfl ?_
  refine g_if_ge hC dX3_kindOf_10 (pc' := 13) (tgt := 15) (by decide) rfl (fun h10 => ?_) (fun h10 => ?_)
  · have hl : ¬ last g t f = 0 := (oI_ge (by omega)).mp h10
    have bo : own g t f < 20000 := hI.m ht hf (by omega)
    rw [oI_pos hl]
    refine g_aload_0 hC dX3_kindOf_15 (pc' := 16) rfl ?_
    refine g_iload_1 hC dX3_kindOf_16 (pc' := 17) rfl ?_
    refine g_iload_4 hC dX3_kindOf_17 (pc' := 19) rfl ?_
    refine g_callV2R hC (c_sValue hB ht hS hI hf (k := last g t f - 1) (by omega)) ml_X3_58 (sh_sheet ad hB ht) rfl ⟨(Nat.le_of_ble_eq_true rfl), (Nat.le_of_ble_eq_true rfl)⟩ (Nat.le_of_ble_eq_true rfl) dX3_kindOf_19 (pc' := 22) rfl ⟨Nat.zero_le _, Nat.zero_le _⟩ ?_
    refine g_istore_5 hC dX3_kindOf_22 (pc' := 24) rfl (Nat.le_of_ble_eq_true rfl) rfl ?_
    refine g_aload_0 hC dX3_kindOf_24 (pc' := 25) rfl ?_
    refine g_iload_1 hC dX3_kindOf_25 (pc' := 26) rfl ?_
    refine g_iload_4 hC dX3_kindOf_26 (pc' := 28) rfl ?_
    refine g_callV2R hC (c_sStrength hB ht hS hI hf (k := last g t f - 1) (by omega)) ml_X3_42 (sh_sheet ad hB ht) rfl ⟨(Nat.le_of_ble_eq_true rfl), (Nat.le_of_ble_eq_true rfl)⟩ (Nat.le_of_ble_eq_true rfl) dX3_kindOf_28 (pc' := 31) rfl ⟨Nat.zero_le _, Nat.zero_le _⟩ ?_
    refine g_iload_3 hC dX3_kindOf_31 (pc' := 32) rfl ?_
    refine g_iaddN hC dX3_kindOf_32 (pc' := 33) rfl ?_
    refine g_istore_6 hC dX3_kindOf_33 (pc' := 35) rfl (Nat.le_of_ble_eq_true rfl) rfl ?_
    refine g_iconst hC dX3_kindOf_35 (pc' := 36) kc_iconst_0 rfl ?_
    refine g_istore_7 hC dX3_kindOf_36 (pc' := 38) rfl (Nat.le_of_ble_eq_true rfl) rfl ?_
    have L38 : ∀ k, k ≤ last g t f - 1 → anB (blur g t f) k = false → G F (S0 ad) (0, 0) X 38 [.ref (B + 4 + 3 * t), .int (nI f), .int (nI (g 0)), .int (nI (g 1)), .int (nI (last g t f - 1)), .int (nI (own g t f / 20)), .int (nI ((own g t f / 2 % 10) + (g 1))), .int (nI k)] [] := by
      refine up_ind _ (fun k hk38 ih38 => ?_)
      intro hb
      refine g_iload_7 hC dX3_kindOf_38 (pc' := 40) rfl ?_
      refine g_iload_4 hC dX3_kindOf_40 (pc' := 42) rfl ?_
      refine g_icmpN_ge hC dX3_kindOf_42 (pc' := 45) (tgt := 88) (by decide) rfl (by omega) (by omega) (fun h42 => ?_) (fun h42 => ?_)
      · refine g_iconst hC dX3_kindOf_88 (pc' := 89) kc_iconst_1 rfl ?_
        refine g_iretR hC hRt rfl dX3_kindOf_89 ?_
        rw [show k = last g t f - 1 by omega] at hb; simp [kind, hl, hb]
      · have bm : mk g t f k < 20000 := hI.m ht hf (by omega)
        refine g_aload_0 hC dX3_kindOf_45 (pc' := 46) rfl ?_
        refine g_iload_1 hC dX3_kindOf_46 (pc' := 47) rfl ?_
        refine g_iload_7 hC dX3_kindOf_47 (pc' := 49) rfl ?_
        refine g_iload_2 hC dX3_kindOf_49 (pc' := 50) rfl ?_
        refine g_callV3R hC (c_sReadable hB ht hS hI hf (k := k) (by omega)) ml_X3_46 (sh_sheet ad hB ht) rfl ⟨(Nat.le_of_ble_eq_true rfl), (Nat.le_of_ble_eq_true rfl)⟩ (Nat.le_of_ble_eq_true rfl) dX3_kindOf_50 (pc' := 53) rfl ⟨Nat.zero_le _, Nat.zero_le _⟩ ?_
        refine g_ifZ_eq hC dX3_kindOf_53 (pc' := 56) (tgt := 82) (by decide) rfl (fun h53 => ?_) (fun h53 => ?_)
        · refine g_iinc_7 hC dX3_kindOf_82 (pc' := 85) rfl (Nat.le_of_ble_eq_true rfl) rfl (nI_inc _ _ kc_iinc_1) ?_
          refine g_goto hC dX3_kindOf_85 (tgt := 38) (by decide) ?_
          exact g_weak (ih38 (by omega) (by rw [anB_f (by simp [blur, *]), hb])) (gle_s (gle_s (gle_s (gle_s (gle_s (gle_s (gle_s (gle_i (by first | rfl | omega) gle_nil))))))))
        · refine g_aload_0 hC dX3_kindOf_56 (pc' := 57) rfl ?_
          refine g_iload_1 hC dX3_kindOf_57 (pc' := 58) rfl ?_
          refine g_iload_7 hC dX3_kindOf_58 (pc' := 60) rfl ?_
          refine g_callV2R hC (c_sValue hB ht hS hI hf (k := k) (by omega)) ml_X3_58 (sh_sheet ad hB ht) rfl ⟨(Nat.le_of_ble_eq_true rfl), (Nat.le_of_ble_eq_true rfl)⟩ (Nat.le_of_ble_eq_true rfl) dX3_kindOf_60 (pc' := 63) rfl ⟨Nat.zero_le _, Nat.zero_le _⟩ ?_
          refine g_iload_5 hC dX3_kindOf_63 (pc' := 65) rfl ?_
          refine g_icmpN_eq hC dX3_kindOf_65 (pc' := 68) (tgt := 82) (by decide) rfl (by omega) (by omega) (fun h65 => ?_) (fun h65 => ?_)
          · refine g_iinc_7 hC dX3_kindOf_82 (pc' := 85) rfl (Nat.le_of_ble_eq_true rfl) rfl (nI_inc _ _ kc_iinc_1) ?_
            refine g_goto hC dX3_kindOf_85 (tgt := 38) (by decide) ?_
            exact g_weak (ih38 (by omega) (by rw [anB_f (by simp [blur, *]), hb])) (gle_s (gle_s (gle_s (gle_s (gle_s (gle_s (gle_s (gle_i (by first | rfl | omega) gle_nil))))))))
          · refine g_aload_0 hC dX3_kindOf_68 (pc' := 69) rfl ?_
            refine g_iload_1 hC dX3_kindOf_69 (pc' := 70) rfl ?_
            refine g_iload_7 hC dX3_kindOf_70 (pc' := 72) rfl ?_
            refine g_callV2R hC (c_sStrength hB ht hS hI hf (k := k) (by omega)) ml_X3_42 (sh_sheet ad hB ht) rfl ⟨(Nat.le_of_ble_eq_true rfl), (Nat.le_of_ble_eq_true rfl)⟩ (Nat.le_of_ble_eq_true rfl) dX3_kindOf_72 (pc' := 75) rfl ⟨Nat.zero_le _, Nat.zero_le _⟩ ?_
            refine g_iload_6 hC dX3_kindOf_75 (pc' := 77) rfl ?_
            refine g_icmpN_le hC dX3_kindOf_77 (pc' := 80) (tgt := 82) (by decide) rfl (by omega) (by omega) (fun h77 => ?_) (fun h77 => ?_)
            · refine g_iinc_7 hC dX3_kindOf_82 (pc' := 85) rfl (Nat.le_of_ble_eq_true rfl) rfl (nI_inc _ _ kc_iinc_1) ?_
              refine g_goto hC dX3_kindOf_85 (tgt := 38) (by decide) ?_
              exact g_weak (ih38 (by omega) (by rw [anB_f (by simp [blur, *]), hb])) (gle_s (gle_s (gle_s (gle_s (gle_s (gle_s (gle_s (gle_i (by first | rfl | omega) gle_nil))))))))
            · refine g_iconst hC dX3_kindOf_80 (pc' := 81) kc_iconst_2 rfl ?_
              refine g_iretR hC hRt rfl dX3_kindOf_81 ?_
              have : anB (blur g t f) (last g t f - 1) = true := anB_iff.mpr ⟨k, by omega, by simp [blur, *]⟩
              simp [kind, hl, this]
    exact g_weak (L38 0 (by exact Nat.zero_le _) rfl) (gle_s (gle_s (gle_s (gle_s (gle_s (gle_s (gle_s (gle_s gle_nil))))))))
  · have hl : last g t f = 0 := Decidable.not_not.mp (fun z => h10 ((oI_ge (by omega)).mpr z))
    refine g_iconst hC dX3_kindOf_13 (pc' := 14) kc_iconst_0 rfl ?_
    refine g_iretR hC hRt rfl dX3_kindOf_14 ?_
    simp [kind, hl]

set_option maxHeartbeats 4000000 in
set_option maxRecDepth 100000 in
theorem c_sAll {l : Launch} {ad : Nat → Nat} {X : gX} {B t : Nat} {g : Nat → Nat} (hB : isB B) (ht : t < 5) (hS : SS X (B + 4 + 3 * t) g t) (hI : Inv g)  : K_X3_allMarks l ad [.ref (B + 4 + 3 * t)] X (pR X (nI (marks g t false))) := by
  refine Ct.of [.ref (B + 4 + 3 * t), .null, .null] 2 (by decide +kernel) rfl (Nat.le_of_ble_eq_true rfl) (fun F hl hC hRt _ => ?_)
  subst hl
  refine g_iconst hC dX3_allMarks_0 (pc' := 1) kc_iconst_0 rfl ?_
  refine g_istore_1 hC dX3_allMarks_1 (pc' := 2) rfl (Nat.le_of_ble_eq_true rfl) rfl ?_
  refine g_iconst hC dX3_allMarks_2 (pc' := 3) kc_iconst_0 rfl ?_
  refine g_istore_2 hC dX3_allMarks_3 (pc' := 4) rfl (Nat.le_of_ble_eq_true rfl) rfl ?_
  have L4 : ∀ k, k ≤ 10 → G F (S0 ad) (0, 0) X 4 [.ref (B + 4 + 3 * t), .int (nI (smN (cnt g t) k)), .int (nI k)] [] := by
    refine up_ind _ (fun k hk4 ih4 => ?_)
    refine g_iload_2 hC dX3_allMarks_4 (pc' := 5) rfl ?_
    refine g_bipush hC dX3_allMarks_5 (pc' := 7) kc_bipush_10 rfl ?_
    refine g_icmpN_ge hC dX3_allMarks_7 (pc' := 10) (tgt := 25) (by decide) rfl (by omega) (by omega) (fun h7 => ?_) (fun h7 => ?_)
    · refine g_iload_1 hC dX3_allMarks_25 (pc' := 26) rfl ?_
      refine g_iretR hC hRt rfl dX3_allMarks_26 ?_
      rw [show k = 10 by omega]
      exact congrArg nI (smN_congr (fun j hj => (cnB_all (fun _ _ => rfl)).symm))
    · refine g_iload_1 hC dX3_allMarks_10 (pc' := 11) rfl ?_
      refine g_aload_0 hC dX3_allMarks_11 (pc' := 12) rfl ?_
      refine g_getR hC fl_X3_21 (sh_sheet ad hB ht) rfl dX3_allMarks_12 (pc' := 15) rfl ?_
      refine g_iload_2 hC dX3_allMarks_15 (pc' := 16) rfl ?_
      refine g_iald hC (sh_counts ad hB ht) (Nat.le_of_ble_eq_true rfl) (by omega) (hS.2.1 k (by omega)) dX3_allMarks_16 (pc' := 17) rfl ?_
      refine g_iaddN hC dX3_allMarks_17 (pc' := 18) rfl ?_
      refine g_istore_1 hC dX3_allMarks_18 (pc' := 19) rfl (Nat.le_of_ble_eq_true rfl) rfl ?_
      refine g_iinc_2 hC dX3_allMarks_19 (pc' := 22) rfl (Nat.le_of_ble_eq_true rfl) rfl (nI_inc _ _ kc_iinc_1) ?_
      refine g_goto hC dX3_allMarks_22 (tgt := 4) (by decide) ?_
      exact g_weak (ih4 (by omega)) (gle_s (gle_i (by rfl) (gle_i (by first | rfl | omega) gle_nil)))
  exact g_weak (L4 0 (by exact Nat.zero_le _)) (gle_s (gle_i (by rfl) (gle_s gle_nil)))

set_option maxHeartbeats 4000000 in
set_option maxRecDepth 100000 in
theorem c_sStruckN {l : Launch} {ad : Nat → Nat} {X : gX} {B t : Nat} {g : Nat → Nat} (hB : isB B) (ht : t < 5) (hS : SS X (B + 4 + 3 * t) g t) (hI : Inv g)  : K_X3_struckMarks l ad [.ref (B + 4 + 3 * t)] X (pR X (nI (marks g t true))) := by
  refine Ct.of [.ref (B + 4 + 3 * t), .null, .null, .null] 3 (by decide +kernel) rfl (Nat.le_of_ble_eq_true rfl) (fun F hl hC hRt _ => ?_)
  subst hl
  refine g_iconst hC dX3_struckMarks_0 (pc' := 1) kc_iconst_0 rfl ?_
  refine g_istore_1 hC dX3_struckMarks_1 (pc' := 2) rfl (Nat.le_of_ble_eq_true rfl) rfl ?_
  refine g_iconst hC dX3_struckMarks_2 (pc' := 3) kc_iconst_0 rfl ?_
  refine g_istore_2 hC dX3_struckMarks_3 (pc' := 4) rfl (Nat.le_of_ble_eq_true rfl) rfl ?_
  have L4 : ∀ f, f ≤ 10 → G F (S0 ad) (0, 0) X 4 [.ref (B + 4 + 3 * t), .int (nI (smN (mcount g t true) f)), .int (nI f), .null] [] := by
    refine up_ind _ (fun f hk4 ih4 => ?_)
    refine g_iload_2 hC dX3_struckMarks_4 (pc' := 5) rfl ?_
    refine g_bipush hC dX3_struckMarks_5 (pc' := 7) kc_bipush_10 rfl ?_
    refine g_icmpN_ge hC dX3_struckMarks_7 (pc' := 10) (tgt := 46) (by decide) rfl (by omega) (by omega) (fun h7 => ?_) (fun h7 => ?_)
    · refine g_iload_1 hC dX3_struckMarks_46 (pc' := 47) rfl ?_
      refine g_iretR hC hRt rfl dX3_struckMarks_47 ?_
      rw [show f = 10 by omega]; rfl
    · refine g_iconst hC dX3_struckMarks_10 (pc' := 11) kc_iconst_0 rfl ?_
      refine g_istore_3 hC dX3_struckMarks_11 (pc' := 12) rfl (Nat.le_of_ble_eq_true rfl) rfl ?_
      have L12 : ∀ k, k ≤ cnt g t f → G F (S0 ad) (0, 0) X 12 [.ref (B + 4 + 3 * t), .int (nI (smN (mcount g t true) f + cnB (mtest g t true f) k)), .int (nI f), .int (nI k)] [] := by
        refine up_ind _ (fun k hk12 ih12 => ?_)
        have bc := hI.c ht (show f < 10 by omega)
        refine g_iload_3 hC dX3_struckMarks_12 (pc' := 13) rfl ?_
        refine g_aload_0 hC dX3_struckMarks_13 (pc' := 14) rfl ?_
        refine g_getR hC fl_X3_21 (sh_sheet ad hB ht) rfl dX3_struckMarks_14 (pc' := 17) rfl ?_
        refine g_iload_2 hC dX3_struckMarks_17 (pc' := 18) rfl ?_
        refine g_iald hC (sh_counts ad hB ht) (Nat.le_of_ble_eq_true rfl) (by omega) (hS.2.1 f (by omega)) dX3_struckMarks_18 (pc' := 19) rfl ?_
        refine g_icmpN_ge hC dX3_struckMarks_19 (pc' := 22) (tgt := 40) (by decide) rfl (by omega) (by omega) (fun h19 => ?_) (fun h19 => ?_)
        · refine g_iinc_2 hC dX3_struckMarks_40 (pc' := 43) rfl (Nat.le_of_ble_eq_true rfl) rfl (nI_inc _ _ kc_iinc_1) ?_
          refine g_goto hC dX3_struckMarks_43 (tgt := 4) (by decide) ?_
          exact g_weak (ih4 (by omega)) (gle_s (gle_i (by rw [show k = cnt g t f by omega]; rfl) (gle_i (by first | rfl | omega) (gle_u gle_nil))))
        · refine g_aload_0 hC dX3_struckMarks_22 (pc' := 23) rfl ?_
          refine g_iload_2 hC dX3_struckMarks_23 (pc' := 24) rfl ?_
          refine g_iload_3 hC dX3_struckMarks_24 (pc' := 25) rfl ?_
          refine g_callV2R hC (c_sStruck hB ht hS hI (show f < 10 by omega) (k := k) (by omega)) ml_X3_38 (sh_sheet ad hB ht) rfl ⟨(Nat.le_of_ble_eq_true rfl), (Nat.le_of_ble_eq_true rfl)⟩ (Nat.le_of_ble_eq_true rfl) dX3_struckMarks_25 (pc' := 28) rfl ⟨Nat.zero_le _, Nat.zero_le _⟩ ?_
          refine g_ifZ_eq hC dX3_struckMarks_28 (pc' := 31) (tgt := 34) (by decide) rfl (fun h28 => ?_) (fun h28 => ?_)
          · refine g_iinc_3 hC dX3_struckMarks_34 (pc' := 37) rfl (Nat.le_of_ble_eq_true rfl) rfl (nI_inc _ _ kc_iinc_1) ?_
            refine g_goto hC dX3_struckMarks_37 (tgt := 12) (by decide) ?_
            exact g_weak (ih12 (by omega)) (gle_s (gle_i (by first | exact congrArg nI (by rw [cnB_t (show mtest g t true f k = true by simpa [mtest] using h28)]; omega) | exact congrArg nI (by rw [cnB_f (show mtest g t true f k = false by simpa [mtest] using h28)])) (gle_s (gle_i (by first | rfl | omega) gle_nil))))
          · refine g_iinc_1 hC dX3_struckMarks_31 (pc' := 34) rfl (Nat.le_of_ble_eq_true rfl) rfl (nI_inc _ _ kc_iinc_1) ?_
            refine g_iinc_3 hC dX3_struckMarks_34 (pc' := 37) rfl (Nat.le_of_ble_eq_true rfl) rfl (nI_inc _ _ kc_iinc_1) ?_
            refine g_goto hC dX3_struckMarks_37 (tgt := 12) (by decide) ?_
            exact g_weak (ih12 (by omega)) (gle_s (gle_i (by first | exact congrArg nI (by rw [cnB_t (show mtest g t true f k = true by simpa [mtest] using h28)]; omega) | exact congrArg nI (by rw [cnB_f (show mtest g t true f k = false by simpa [mtest] using h28)])) (gle_s (gle_i (by first | rfl | omega) gle_nil))))
      exact g_weak (L12 0 (by exact Nat.zero_le _)) (gle_s (gle_i (by rfl) (gle_s (gle_s gle_nil))))
  exact g_weak (L4 0 (by exact Nat.zero_le _)) (gle_s (gle_i (by rfl) (gle_s (gle_u gle_nil))))
