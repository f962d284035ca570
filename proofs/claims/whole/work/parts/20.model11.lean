theorem wb_tb (n : Nat) : (lN n).toBitVec = BitVec.ofNat 64 n := rfl
theorem wb_inj {a b : Int64} (h : a.toBitVec = b.toBitVec) : a = b := Int64.toBitVec_inj.mp h
theorem wb_tn {n : Nat} (h : n < 2 ^ 64) : (lN n).toBitVec.toNat = n := by rw [wb_tb, BitVec.toNat_ofNat, Nat.mod_eq_of_lt h]
theorem wb_of (x : Int64) : ∃ n, n < 2 ^ 64 ∧ x = lN n := ⟨x.toBitVec.toNat, x.toBitVec.isLt, wb_inj (by rw [wb_tb]; simp)⟩
theorem wb_of32 (x : Int32) : ∃ n, n < 2 ^ 32 ∧ x = nI n := ⟨x.toBitVec.toNat, x.toBitVec.isLt, Int32.toBitVec_inj.mp (by show _ = BitVec.ofNat 32 _; simp)⟩
theorem wb_c : ∀ k, k < 64 → ((nI k).toInt64 &&& 63) = lN k := by decide +kernel
theorem wb_cu : ∀ k, k < 64 → ((nI k).toInt64.toUInt64 &&& Int64.toUInt64 63) = UInt64.ofNat k := by decide +kernel
theorem wb_sm : ∀ k, k < 64 → (BitVec.ofNat 64 k).smod 64 = BitVec.ofNat 64 k := by decide +kernel
theorem wb_pw {a b : Nat} (h : a ≤ b) : 2 ^ b = 2 ^ a * 2 ^ (b - a) := by rw [← Nat.pow_add]; congr 1; omega
theorem wb_lt2 {a b : Nat} (h : a < b) : 2 ^ a < 2 ^ b := Nat.pow_lt_pow_right (by decide) h
theorem wb_mod (n : Nat) : lN n = lN (n % 2 ^ 64) := wb_inj (by rw [wb_tb, wb_tb]; apply BitVec.eq_of_toNat_eq; rw [BitVec.toNat_ofNat, BitVec.toNat_ofNat, Nat.mod_mod])
theorem wb_shr {n k : Nat} (hn : n < 2 ^ 64) (hk : k < 64) : ((lN n).toUInt64 >>> ((nI k).toInt64.toUInt64 &&& Int64.toUInt64 63)).toInt64 = lN (n / 2 ^ k) := by
  rw [wb_cu k hk]
  apply wb_inj
  apply BitVec.eq_of_toNat_eq
  show ((lN n).toUInt64 >>> UInt64.ofNat k).toNat = (BitVec.ofNat 64 _).toNat
  have h1 : (UInt64.ofNat k).toNat = k := by
    show (BitVec.ofNat 64 k).toNat = k
    rw [BitVec.toNat_ofNat, Nat.mod_eq_of_lt (by omega)]
  have h2 : (lN n).toUInt64.toNat = n := wb_tn hn
  rw [UInt64.toNat_shiftRight, h1, h2, Nat.mod_eq_of_lt hk, Nat.shiftRight_eq_div_pow, BitVec.toNat_ofNat, Nat.mod_eq_of_lt (Nat.lt_of_le_of_lt (Nat.div_le_self _ _) hn)]
theorem wb_shl (n : Nat) {k : Nat} (hk : k < 64) : lN n <<< ((nI k).toInt64 &&& 63) = lN (n * 2 ^ k) := by
  rw [wb_c k hk]
  apply wb_inj
  rw [Int64.toBitVec_shiftLeft, wb_tb, wb_tb, wb_tb, wb_sm k hk]
  apply BitVec.eq_of_toNat_eq
  rw [BitVec.shiftLeft_eq', BitVec.toNat_shiftLeft, BitVec.toNat_ofNat, BitVec.toNat_ofNat, BitVec.toNat_ofNat, Nat.mod_eq_of_lt (show k < 2 ^ 64 by omega), Nat.shiftLeft_eq, Nat.mul_mod, Nat.mod_mod, ← Nat.mul_mod]
theorem wb_and {a b : Nat} (ha : a < 2 ^ 64) (hb : b < 2 ^ 64) : lN a &&& lN b = lN (a &&& b) := by
  apply wb_inj
  rw [Int64.toBitVec_and, wb_tb, wb_tb, wb_tb]
  apply BitVec.eq_of_toNat_eq
  rw [BitVec.toNat_and, BitVec.toNat_ofNat, BitVec.toNat_ofNat, BitVec.toNat_ofNat, Nat.mod_eq_of_lt ha, Nat.mod_eq_of_lt hb, Nat.mod_eq_of_lt (Nat.and_lt_two_pow _ hb)]
theorem wb_or {a b : Nat} (ha : a < 2 ^ 64) (hb : b < 2 ^ 64) : lN a ||| lN b = lN (a ||| b) := by
  apply wb_inj
  rw [Int64.toBitVec_or, wb_tb, wb_tb, wb_tb]
  apply BitVec.eq_of_toNat_eq
  rw [BitVec.toNat_or, BitVec.toNat_ofNat, BitVec.toNat_ofNat, BitVec.toNat_ofNat, Nat.mod_eq_of_lt ha, Nat.mod_eq_of_lt hb, Nat.mod_eq_of_lt (Nat.or_lt_two_pow ha hb)]
theorem wb_mask {n k : Nat} (hn : n < 2 ^ 64) (hk : k < 64) : lN n &&& lN (2 ^ k - 1) = lN (n % 2 ^ k) := by
  rw [wb_and hn (by have := wb_lt2 hk; omega), Nat.and_two_pow_sub_one_eq_mod]
theorem wb_a1 {n : Nat} (hn : n < 2 ^ 64) : lN n &&& 1 = lN (n % 2) := wb_mask (k := 1) hn (by decide)
theorem wb_bit {n k : Nat} (hn : n < 2 ^ 64) (hk : k < 64) : ((lN n).toUInt64 >>> ((nI k).toInt64.toUInt64 &&& Int64.toUInt64 63)).toInt64 &&& 1 = lN (n / 2 ^ k % 2) := by
  rw [wb_shr hn hk, wb_a1 (Nat.lt_of_le_of_lt (Nat.div_le_self _ _) hn)]
section
variable {F : gF} {own : String} {cc : ByteArray} {nL : Nat} {rm : Room} {S : gS} {K : Nat × Nat} {X : gX} {pc pc' : Nat} {ls st : List Value}
theorem g_land255 (hC : Cx F own cc nL rm) {a : Nat} (d : decode cc pc = .ok (.land, 1)) (hp : pc + 1 = pc') (ha : a < 18446744073709551616) (k : G F S K X pc' ls (.long (lN (a % 256)) :: st)) : G F S K X pc ls (.long 255 :: .long (lN a) :: st) := g_land hC d hp (by
  have e := wb_mask (n := a) (k := 8) ha (by decide)
  rw [show (255 : Int64) = lN (2 ^ 8 - 1) from rfl, e]
  exact k)
theorem g_lushrN (hC : Cx F own cc nL rm) {a b : Nat} (d : decode cc pc = .ok (.lushr, 1)) (hp : pc + 1 = pc') (ha : a < 18446744073709551616) (hb : b < 64) (k : G F S K X pc' ls (.long (lN (a / 2 ^ b)) :: st)) : G F S K X pc ls (.int (nI b) :: .long (lN a) :: st) := g_lushr hC d (wb_shr ha hb) hp k
end
theorem nI_lI {a : Nat} {n : Int} (hk : Int32.ofInt n = -1) : nI a + Int32.ofInt n = lI a := by
  rw [hk]
  unfold lI
  simp [Int32.sub_eq_add_neg]
theorem lI_neg {e : Nat} (he : e < 1073741824) : lI e < 0 ↔ e = 0 := by
  rw [Int32.lt_iff_toInt_lt, lI_toInt he]
  have : (0 : Int32).toInt = 0 := by decide
  rw [this]
  omega
theorem lN_eq0 {a : Nat} (ha : a < 18446744073709551616) : lN a = 0 ↔ a = 0 := by
  constructor
  · intro h
    have h2 := congrArg (fun x : Int64 => x.toBitVec.toNat) h
    simp only [wb_tn ha] at h2
    exact h2
  · intro h; rw [h]; rfl
theorem lcmp0 {a : Nat} (ha : a < 18446744073709551616) : lg_cmp (lN a) 0 = nI 0 ↔ a = 0 := by
  rw [← lN_eq0 ha]
  unfold lg_cmp
  by_cases h : lN a = 0
  · rw [h]; decide
  · simp only [h, if_false, iff_false]
    split <;> decide
def scn (C : Nat) : Nat → Nat → Nat
  | 0, k => k
  | n + 1, k => if C / 2 ^ (8 * k) % 256 = 0 then (if C / 2 ^ (8 * k) = 0 then k else 0) else if 33 ≤ C / 2 ^ (8 * k) % 256 ∧ C / 2 ^ (8 * k) % 256 ≤ 126 then scn C n (k + 1) else 0
/-- how many characters, 0: not a good number -/
def szN (C : Nat) : Nat := scn C 8 0
theorem scn_go {C k : Nat} (hk : k < 8) (h0 : ¬ C / 2 ^ (8 * k) % 256 = 0) (h : 33 ≤ C / 2 ^ (8 * k) % 256 ∧ C / 2 ^ (8 * k) % 256 ≤ 126) : scn C (8 - k) k = scn C (8 - (k + 1)) (k + 1) := by
  rw [show 8 - k = (8 - (k + 1)) + 1 by omega]
  show (if _ then _ else _) = _
  rw [if_neg h0, if_pos h]
theorem scn_bad {C k : Nat} (hk : k < 8) (h0 : ¬ C / 2 ^ (8 * k) % 256 = 0) (h : ¬ (33 ≤ C / 2 ^ (8 * k) % 256 ∧ C / 2 ^ (8 * k) % 256 ≤ 126)) : scn C (8 - k) k = 0 := by
  rw [show 8 - k = (8 - (k + 1)) + 1 by omega]
  show (if _ then _ else _) = _
  rw [if_neg h0, if_neg h]
theorem top_0 {C k : Nat} (hC : C < 18446744073709551616) (hk : 8 ≤ k) : C / 2 ^ (8 * k) = 0 := by
  refine Nat.div_eq_of_lt (Nat.lt_of_lt_of_le hC ?_)
  have : 2 ^ 64 ≤ 2 ^ (8 * k) := Nat.pow_le_pow_right (by decide) (by omega)
  exact this
theorem scn_end {C k : Nat} (hC : C < 18446744073709551616) (hk : k ≤ 8) (h0 : C / 2 ^ (8 * k) % 256 = 0) : scn C (8 - k) k = if C / 2 ^ (8 * k) = 0 then k else 0 := by
  by_cases h8 : k = 8
  · subst h8
    rw [if_pos (top_0 hC (Nat.le_refl _))]
    rfl
  · rw [show 8 - k = (8 - (k + 1)) + 1 by omega]
    show (if _ then _ else _) = _
    rw [if_pos h0]
theorem scn_le {C : Nat} : ∀ n k, scn C n k ≤ n + k := by
  intro n
  induction n with
  | zero => intro k; show k ≤ 0 + k; omega
  | succ n ih =>
    intro k
    show (if _ then _ else _) ≤ _
    split
    · split <;> omega
    · split
      · have := ih (k + 1); omega
      · omega
theorem szN_le (C : Nat) : szN C ≤ 8 := scn_le 8 0
/-- the good characters: each byte below the size is one -/
theorem scn_ok {C : Nat} : ∀ n k, scn C n k ≠ 0 → ∀ i, k ≤ i → i < scn C n k → n + k ≤ 8 → 33 ≤ C / 2 ^ (8 * i) % 256 ∧ C / 2 ^ (8 * i) % 256 ≤ 126 := by
  intro n
  induction n with
  | zero => intro k _ i h1 h2 _; have h2' : i < k := h2; omega
  | succ n ih =>
    intro k h i h1 h2 h3
    have e : scn C (n + 1) k = if C / 2 ^ (8 * k) % 256 = 0 then (if C / 2 ^ (8 * k) = 0 then k else 0) else if 33 ≤ C / 2 ^ (8 * k) % 256 ∧ C / 2 ^ (8 * k) % 256 ≤ 126 then scn C n (k + 1) else 0 := rfl
    rw [e] at h h2
    split at h2
    · split at h2 <;> omega
    · rename_i hz
      rw [if_neg hz] at h
      split at h2
      · rename_i hg
        rw [if_pos hg] at h
        by_cases hik : i = k
        · subst hik; exact hg
        · exact ih (k + 1) h i (by omega) h2 (by omega)
      · omega
def cN (c : Int64) : Nat := c.toBitVec.toNat
def byt (C m : Nat) : Nat := C / 2 ^ (8 * m) % 256
def PD (X : gX) (pad : Nat → Nat) (len : Nat) : Prop := X 201 7 = nI len ∧ len ≤ 80 ∧ ∀ i, i < len → X 207 i = nI (pad i) ∧ 33 ≤ pad i ∧ pad i ≤ 126
def okPut (len : Nat) (c : Int64) : Bool := !decide (szN (cN c) = 0) && decide (len + szN (cN c) ≤ 80)
def rPut (len : Nat) (c : Int64) : Int32 := if szN (cN c) = 0 then -2 else if len + szN (cN c) ≤ 80 then nI (len + szN (cN c)) else -4
def padP (pad : Nat → Nat) (len : Nat) (c : Int64) : Nat → Nat := fun i => if len ≤ i then byt (cN c) (len + szN (cN c) - 1 - i) else pad i
theorem pt_step {X X1 : gX} {d len n m C : Nat} (hm : m < n) (h : (∀ i, i ≠ d → X1 i = X i) ∧ ∀ i, X1 d i = if len + (n - m) ≤ i ∧ i < len + n then nI (byt C (len + n - 1 - i)) else X d i) : (∀ i, i ≠ d → gu X1 d (len + (n - m - 1)) (nI (byt C m)) i = X i) ∧ ∀ i, gu X1 d (len + (n - m - 1)) (nI (byt C m)) d i = if len + (n - (m + 1)) ≤ i ∧ i < len + n then nI (byt C (len + n - 1 - i)) else X d i := by
  refine ⟨fun i hi => (gu_ne i hi).trans (h.1 i hi), fun i => ?_⟩
  by_cases hz : i = len + (n - m - 1)
  · subst hz
    rw [gu_at, if_pos (by omega), show len + n - 1 - (len + (n - m - 1)) = m by omega]
  · rw [gu_id hz, h.2 i]
    by_cases hy : len + (n - m) ≤ i ∧ i < len + n
    · rw [if_pos hy, if_pos (by omega)]
    · rw [if_neg hy, if_neg (by omega)]

set_option maxHeartbeats 4000000 in
set_option maxRecDepth 100000 in
theorem c_put {l : Launch} {ad : Nat → Nat} {X : gX} {C : Nat} (hCb : C < 18446744073709551616) {pad : Nat → Nat} {len : Nat} (hd : PD X pad len) : K_X7_put l ad [.ref 201, .long (lN (C))] X (fun rr X' => rr = rPut len (lN C) ∧ (if okPut len (lN C) = true then PD X' (padP pad len (lN C)) (len + szN C) else X' = X) ∧ (∀ i, i ≠ 201 → i ≠ 207 → X' i = X i) ∧ ∀ j, j ≠ 7 → X' 201 j = X 201 j) := by
  refine Ct.of [.ref 201, .long (lN (C)), .null, .null, .null, .null, .null] 4 (by decide +kernel) rfl (Nat.le_of_ble_eq_true rfl) (fun F hl hC hRt _ => ?_)
  subst hl
  have hl80 := hd.2.1
  have hcN : cN (lN C) = C := wb_tn hCb
  refine g_iconst hC dX7_put_0 (pc' := 1) kc_iconst_0 rfl ?_
  refine g_istore_3 hC dX7_put_1 (pc' := 2) rfl (Nat.le_of_ble_eq_true rfl) rfl ?_
  refine g_lload_1 hC dX7_put_2 (pc' := 3) rfl ?_
  refine g_lstore_4 hC dX7_put_3 (pc' := 5) rfl (Nat.le_of_ble_eq_true rfl) rfl ?_
  have L5 : ∀ k, k ≤ 8 → szN C = scn C (8 - k) k → G F (S0 ad) (0, 0) X 5 [.ref 201, .long (lN (C)), .null, .int (nI k), .long (lN (C / 2 ^ (8 * k))), .null, .null] [] := by
    refine up_ind _ (fun k hk5 ih5 => ?_)
    intro hq; have hdk0 : C / 2 ^ (8 * k) < 18446744073709551616 := Nat.lt_of_le_of_lt (Nat.div_le_self _ _) hCb
    refine g_lload_4 hC dX7_put_5 (pc' := 7) rfl ?_
    refine g_ldc2 hC kl_X7_192 dX7_put_7 (pc' := 10) rfl ?_
    refine g_land255 hC dX7_put_10 (pc' := 11) rfl (by omega) ?_
    refine g_lconst hC dX7_put_11 (pc' := 12) (v := 0) rfl rfl ?_
    refine g_lcmp hC dX7_put_12 (pc' := 13) rfl ?_
    refine g_ifI_eq hC dX7_put_13 (pc' := 16) (tgt := 49) (by decide) rfl (fun h13 => ?_) (fun h13 => ?_)
    · have hz : C / 2 ^ (8 * k) % 256 = 0 := (lcmp0 (by omega)).mp h13
      have hsz : szN C = if C / 2 ^ (8 * k) = 0 then k else 0 := hq.trans (scn_end hCb hk5 hz)
      have hdk : C / 2 ^ (8 * k) < 18446744073709551616 := Nat.lt_of_le_of_lt (Nat.div_le_self _ _) hCb
      refine g_lload_4 hC dX7_put_49 (pc' := 51) rfl ?_
      refine g_lconst hC dX7_put_51 (pc' := 52) (v := 0) rfl rfl ?_
      refine g_lcmp hC dX7_put_52 (pc' := 53) rfl ?_
      refine g_ifI_ne hC dX7_put_53 (pc' := 56) (tgt := 60) (by decide) rfl (fun h53 => ?_) (fun h53 => ?_)
      · have hs0 : szN C = 0 := hsz.trans (if_neg (fun z => h53 ((lcmp0 hdk).mpr z)))
        refine g_bipush hC dX7_put_60 (pc' := 62) kc_bipush_m2 rfl ?_
        refine g_iretI hC hRt rfl dX7_put_62 ?_
        exact ⟨by simp [rPut, hcN, hs0], by rw [if_neg (by simp [okPut, hcN, hs0])], fun _ _ _ => rfl, fun _ _ => rfl⟩
      · have hsk : szN C = k := hsz.trans (if_pos ((lcmp0 hdk).mp h53))
        refine g_iload_3 hC dX7_put_56 (pc' := 57) rfl ?_
        refine g_ifN_ne hC dX7_put_57 (pc' := 60) (tgt := 63) (by decide) rfl (by omega) (fun h57 => ?_) (fun h57 => ?_)
        · refine g_aload_0 hC dX7_put_63 (pc' := 64) rfl ?_
          refine g_getI hC fl_X7_156 (sh_M ad) rfl (hd.1) dX7_put_64 (pc' := 67) rfl ?_
          refine g_iload_3 hC dX7_put_67 (pc' := 68) rfl ?_
          refine g_iaddN hC dX7_put_68 (pc' := 69) rfl ?_
          refine g_bipush hC dX7_put_69 (pc' := 71) kc_bipush_80 rfl ?_
          refine g_icmpN_le hC dX7_put_71 (pc' := 74) (tgt := 77) (by decide) rfl (by omega) (by omega) (fun h71 => ?_) (fun h71 => ?_)
          · refine g_lload_1 hC dX7_put_77 (pc' := 78) rfl ?_
            refine g_lstore_4 hC dX7_put_78 (pc' := 80) rfl (Nat.le_of_ble_eq_true rfl) rfl ?_
            refine g_iload_3 hC dX7_put_80 (pc' := 81) rfl ?_
            refine g_iconst hC dX7_put_81 (pc' := 82) kc_iconst_1 rfl ?_
            refine g_isubN hC dX7_put_82 (pc' := 83) rfl (by omega) ?_
            rw [show nI (k - 1) = lI k from (lI_pos (by omega)).symm]
            refine g_istore_6 hC dX7_put_83 (pc' := 85) rfl (Nat.le_of_ble_eq_true rfl) rfl ?_
            have L85 : ∀ m, m ≤ k → ∀ X1 : gX, ((∀ i, i ≠ 207 → X1 i = X i) ∧ ∀ i, X1 207 i = if len + (k - m) ≤ i ∧ i < len + k then nI (byt C (len + k - 1 - i)) else X 207 i) → G F (S0 ad) (0, 0) X1 85 [.ref 201, .long (lN (C)), .null, .int (nI k), .long (lN (C / 2 ^ (8 * m))), .null, .int (lI (k - m))] [] := by
              refine up_ind _ (fun m hk85 ih85 => ?_)
              intro X1 hm85
              refine g_iload_6 hC dX7_put_85 (pc' := 87) rfl ?_
              refine g_if_lt hC dX7_put_87 (pc' := 90) (tgt := 122) (by decide) rfl (fun h87 => ?_) (fun h87 => ?_)
              · have hmn : m = k := by have := (lI_neg (by omega)).mp h87; omega
                refine g_aload_0 hC dX7_put_122 (pc' := 123) rfl ?_
                refine g_dup hC dX7_put_123 (pc' := 124) rfl rfl ?_
                refine g_getI hC fl_X7_156 (sh_M ad) rfl ((congrFun (hm85.1 201 (by decide)) 7).trans hd.1) dX7_put_124 (pc' := 127) rfl ?_
                refine g_iload_3 hC dX7_put_127 (pc' := 128) rfl ?_
                refine g_iaddN hC dX7_put_128 (pc' := 129) rfl ?_
                refine g_putI hC fl_X7_156 (sh_M ad) rfl rfl rfl dX7_put_129 (pc' := 132) rfl ?_
                refine g_aload_0 hC dX7_put_132 (pc' := 133) rfl ?_
                refine g_getI hC fl_X7_156 (sh_M ad) rfl (gu_at) dX7_put_133 (pc' := 136) rfl ?_
                refine g_iretI hC hRt rfl dX7_put_136 ?_
                refine ⟨?_, ?_, fun i h1 h2 => (gu_ne i h1).trans (hm85.1 i h2), fun j hj => (gu_id hj).trans (by rw [hm85.1 201 (by decide)])⟩
                · simp only [rPut, hcN, hsk]
                  rw [if_neg h57, if_pos h71]
                · rw [if_pos (by simp [okPut, hcN, hsk, h57]; omega), hsk]
                  refine ⟨gu_at, h71, fun i hi => ?_⟩
                  rw [gu_ne 207 (by decide), hm85.2 i]
                  unfold padP
                  rw [hcN, hsk]
                  by_cases hli : len ≤ i
                  · rw [if_pos (by omega), if_pos hli]
                    have := scn_ok 8 0 (fun z => h57 (hsk.symm.trans z)) (len + k - 1 - i) (Nat.zero_le _) (by show _ < szN C; omega) (by decide)
                    exact ⟨rfl, this.1, this.2⟩
                  · rw [if_neg (by omega), if_neg hli]
                    exact hd.2.2 i (by omega)
              · have hmn : m < k := Nat.not_le.mp fun z => h87 ((lI_neg (by omega)).mpr (by omega))
                have hdm : C / 2 ^ (8 * m) < 18446744073709551616 := Nat.lt_of_le_of_lt (Nat.div_le_self _ _) hCb
                rw [lI_pos (show 1 ≤ k - m by omega)]
                refine g_aload_0 hC dX7_put_90 (pc' := 91) rfl ?_
                refine g_getR hC fl_X7_26 (sh_M ad) rfl dX7_put_91 (pc' := 94) rfl ?_
                refine g_aload_0 hC dX7_put_94 (pc' := 95) rfl ?_
                refine g_getI hC fl_X7_156 (sh_M ad) rfl ((congrFun (hm85.1 201 (by decide)) 7).trans hd.1) dX7_put_95 (pc' := 98) rfl ?_
                refine g_iload_6 hC dX7_put_98 (pc' := 100) rfl ?_
                refine g_iaddN hC dX7_put_100 (pc' := 101) rfl ?_
                refine g_lload_4 hC dX7_put_101 (pc' := 103) rfl ?_
                refine g_ldc2 hC kl_X7_192 dX7_put_103 (pc' := 106) rfl ?_
                refine g_land255 hC dX7_put_106 (pc' := 107) rfl (by omega) ?_
                refine g_l2i hC dX7_put_107 (pc' := 108) (lN_i _) rfl ?_
                refine g_iast hC (sh_mpad ad) (Nat.le_of_ble_eq_true rfl) (by omega) dX7_put_108 (pc' := 109) rfl ?_
                refine g_lload_4 hC dX7_put_109 (pc' := 111) rfl ?_
                refine g_bipush hC dX7_put_111 (pc' := 113) kc_bipush_8 rfl ?_
                refine g_lushrN hC dX7_put_113 (pc' := 114) rfl (by omega) (by omega) ?_
                refine g_lstore_4 hC dX7_put_114 (pc' := 116) rfl (Nat.le_of_ble_eq_true rfl) rfl ?_
                refine g_iinc_6 hC dX7_put_116 (pc' := 119) rfl (Nat.le_of_ble_eq_true rfl) rfl (nI_lI kc_iinc_m1) ?_
                refine g_goto hC dX7_put_119 (tgt := 85) (by decide) ?_
                exact g_weak (ih85 (by omega) _ (by exact pt_step hmn hm85)) (gle_s (gle_s (gle_u (gle_s (gle_e (by rw [Nat.div_div_eq_div_mul, ← Nat.pow_add]; rfl) (gle_u (gle_i (by exact congrArg lI (by omega)) gle_nil)))))))
            exact g_weak (L85 0 (by exact Nat.zero_le _) _ (by exact ⟨fun _ _ => rfl, fun i => by rw [if_neg (by omega)]⟩)) (gle_s (gle_s (gle_u (gle_s (gle_e (by rw [Nat.mul_zero, Nat.pow_zero, Nat.div_one]) (gle_u (gle_i (by rfl) gle_nil)))))))
          · refine g_bipush hC dX7_put_74 (pc' := 76) kc_bipush_m4 rfl ?_
            refine g_iretI hC hRt rfl dX7_put_76 ?_
            have hsk0 : ¬ szN C = 0 := fun z => h57 (hsk.symm.trans z)
            exact ⟨by simp [rPut, hcN, hsk, h57]; omega, by rw [if_neg (by simp [okPut, hcN, hsk]; omega)], fun _ _ _ => rfl, fun _ _ => rfl⟩
        · have hs0 : szN C = 0 := hsk.trans h57
          refine g_bipush hC dX7_put_60 (pc' := 62) kc_bipush_m2 rfl ?_
          refine g_iretI hC hRt rfl dX7_put_62 ?_
          exact ⟨by simp [rPut, hcN, hs0], by rw [if_neg (by simp [okPut, hcN, hs0])], fun _ _ _ => rfl, fun _ _ => rfl⟩
    · have hz : ¬ C / 2 ^ (8 * k) % 256 = 0 := fun z => h13 ((lcmp0 (by omega)).mpr z)
      have hk8 : k < 8 := Nat.not_le.mp fun z => hz (by rw [top_0 hCb z])
      refine g_lload_4 hC dX7_put_16 (pc' := 18) rfl ?_
      refine g_ldc2 hC kl_X7_192 dX7_put_18 (pc' := 21) rfl ?_
      refine g_land255 hC dX7_put_21 (pc' := 22) rfl (by omega) ?_
      refine g_l2i hC dX7_put_22 (pc' := 23) (lN_i _) rfl ?_
      refine g_bipush hC dX7_put_23 (pc' := 25) kc_bipush_33 rfl ?_
      refine g_bipush hC dX7_put_25 (pc' := 27) kc_bipush_126 rfl ?_
      refine g_callS3R hC (c_in) ml_X7_43 ⟨(Nat.le_of_ble_eq_true rfl), (Nat.le_of_ble_eq_true rfl)⟩ (Nat.le_of_ble_eq_true rfl) dX7_put_27 (pc' := 30) rfl ⟨Nat.zero_le _, Nat.zero_le _⟩ ?_
      refine g_ifZ_ne hC dX7_put_30 (pc' := 33) (tgt := 36) (by decide) rfl (fun h30 => ?_) (fun h30 => ?_)
      · rw [inB_nI (by omega) (by decide) (by decide)] at h30
        simp only [Bool.and_eq_true, decide_eq_true_eq] at h30
        refine g_iinc_3 hC dX7_put_36 (pc' := 39) rfl (Nat.le_of_ble_eq_true rfl) rfl (nI_inc _ _ kc_iinc_1) ?_
        refine g_lload_4 hC dX7_put_39 (pc' := 41) rfl ?_
        refine g_bipush hC dX7_put_41 (pc' := 43) kc_bipush_8 rfl ?_
        refine g_lushrN hC dX7_put_43 (pc' := 44) rfl (by omega) (by omega) ?_
        refine g_lstore_4 hC dX7_put_44 (pc' := 46) rfl (Nat.le_of_ble_eq_true rfl) rfl ?_
        refine g_goto hC dX7_put_46 (tgt := 5) (by decide) ?_
        exact g_weak (ih5 (by omega) (hq.trans (scn_go hk8 hz h30))) (gle_s (gle_s (gle_u (gle_i (by first | rfl | omega) (gle_e (by rw [Nat.div_div_eq_div_mul, ← Nat.pow_add]; rfl) (gle_u (gle_u gle_nil)))))))
      · rw [inB_nI (by omega) (by decide) (by decide)] at h30
        have hbad : ¬ (33 ≤ C / 2 ^ (8 * k) % 256 ∧ C / 2 ^ (8 * k) % 256 ≤ 126) := fun z => by simp [z.1, z.2] at h30
        have hs0 : szN C = 0 := hq.trans (scn_bad hk8 hz hbad)
        refine g_bipush hC dX7_put_33 (pc' := 35) kc_bipush_m2 rfl ?_
        refine g_iretI hC hRt rfl dX7_put_35 ?_
        exact ⟨by simp [rPut, hcN, hs0], by rw [if_neg (by simp [okPut, hcN, hs0])], fun _ _ _ => rfl, fun _ _ => rfl⟩
  exact g_weak (L5 0 (by exact Nat.zero_le _) rfl) (gle_s (gle_s (gle_u (gle_s (gle_e (by rw [Nat.mul_zero, Nat.pow_zero, Nat.div_one]) (gle_u (gle_u gle_nil)))))))
