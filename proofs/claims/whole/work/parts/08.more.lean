theorem gle_nil : gle [] [] := trivial
theorem gle_s {a : Value} {as bs : List Value} (h : gle as bs) : gle (a :: as) (a :: bs) := ⟨Or.inr rfl, h⟩
theorem gle_u {b : Value} {as bs : List Value} (h : gle as bs) : gle (.null :: as) (b :: bs) := ⟨Or.inl rfl, h⟩
theorem gle_e {a b : Value} {as bs : List Value} (e : a = b) (h : gle as bs) : gle (a :: as) (b :: bs) := ⟨Or.inr e, h⟩
theorem gle_i {a b : Int32} {as bs : List Value} (e : a = b) (h : gle as bs) : gle (.int a :: as) (.int b :: bs) := ⟨Or.inr (congrArg Value.int e), h⟩
theorem g_eq {F : gF} {S : gS} {K : Nat × Nat} {X X' : gX} {pc : Nat} {ls ls' st st' : List Value} (h : G F S K X pc ls st) (e1 : X = X') (e2 : st = st') (e3 : gle ls ls') : G F S K X' pc ls' st' := by subst e1; subst e2; exact g_weak h e3
theorem nI_dec {a : Nat} {n : Int} (h : 1 ≤ a) (hk : Int32.ofInt n = -1) : nI a + Int32.ofInt n = nI (a - 1) := by
  obtain ⟨b, rfl⟩ : ∃ b, a = b + 1 := ⟨a - 1, by omega⟩
  rw [hk]
  exact pk_m1 b
theorem fz_z (b : Bool) : fits .boolean (.int (zI b)) = true := by cases b <;> decide
theorem fi_i (v : Int32) : fits .int (.int v) = true := rfl
theorem vz_z (b : Bool) : vp_nar .boolean (zI b) = zI b := by cases b <;> decide +kernel
theorem nz_1 : narrow .boolean (.int (nI 1)) = .int (nI 1) := by decide +kernel
theorem nz_0 : narrow .boolean (.int (nI 0)) = .int (nI 0) := by decide +kernel
theorem zI_t : zI true = nI 1 := by decide
theorem zI_f : zI false = nI 0 := by decide
theorem nI1_z {b : Bool} (h : b = true) : nI 1 = zI b := by rw [h]; rfl
theorem nI0_z {b : Bool} (h : b = false) : nI 0 = zI b := by rw [h]; rfl
theorem nI_and15 (a : Nat) : nI a &&& nI 15 = nI (a % 16) := by rw [nI_and]; exact congrArg nI (Nat.and_two_pow_sub_one_eq_mod a 4)
theorem nI_and1 (a : Nat) : nI a &&& nI 1 = nI (a % 2) := by rw [nI_and]; exact congrArg nI (Nat.and_two_pow_sub_one_eq_mod a 1)
theorem p2_lt {b : Nat} (hb : b < 31) : 2 ^ b < 2 ^ 31 := Nat.pow_lt_pow_right (by decide) hb
theorem nI_shl1 {b : Nat} (hb : b < 31) : nI 1 <<< (nI b &&& 31) = nI (2 ^ b) := by
  rw [nI_shl (by omega) (by have := p2_lt hb; omega), Nat.one_mul]
/-- the last row of the stack, one below: -1 is nothing -/
def lI (e : Nat) : Int32 := nI e - 1
theorem lI_toInt {e : Nat} (h : e < 1073741824) : (lI e).toInt = (e : Int) - 1 := by
  have := pk_sub_toInt (a := e) (b := 1) (by omega) (by omega)
  exact this
theorem lI_lt {e t : Nat} (he : e < 1073741824) (ht : t < 1073741824) : lI e < nI t ↔ e ≤ t := by
  rw [Int32.lt_iff_toInt_lt, lI_toInt he, nI_toInt (by omega)]; omega
theorem lI_le {e t : Nat} (he : e < 1073741824) (ht : t < 1073741824) : nI t ≤ lI e ↔ t < e := by
  rw [Int32.le_iff_toInt_le, lI_toInt he, nI_toInt (by omega)]; omega
theorem lI_ge {e t : Nat} (he : e < 1073741824) (ht : t < 1073741824) : lI e ≤ nI t ↔ e ≤ t + 1 := by
  rw [Int32.le_iff_toInt_le, lI_toInt he, nI_toInt (by omega)]; omega
theorem lI_gt {e t : Nat} (he : e < 1073741824) (ht : t < 1073741824) : nI t < lI e ↔ t + 1 < e := by
  rw [Int32.lt_iff_toInt_lt, lI_toInt he, nI_toInt (by omega)]; omega
theorem lI_s (e : Nat) : lI (e + 1) = nI e := nI_pred e
theorem lI_inc (e : Nat) : lI e + nI 1 = nI e := by
  show nI e - 1 + 1 = nI e
  simp
section
variable {F : gF} {own : String} {cc : ByteArray} {nL : Nat} {rm : Room} {S : gS} {K : Nat × Nat} {X : gX} {pc pc' : Nat} {ls st : List Value}
theorem g_iretI (hC : Cx F own cc nL rm) {post : Int32 → gX → Prop} {ty : FieldType} {v : Int32} (hRt : Rt F (some ty) 0 0 (pI S post)) (hn : narrow ty (.int v) = .int v) (d : decode cc pc = .ok (.ireturn, 1)) (h : post v X) : G F S (0, 0) X pc ls [.int v] := g_iret hC hRt hn rfl d ⟨rfl, v, rfl, h⟩
theorem g_iretR (hC : Cx F own cc nL rm) {e : Int32} {ty : FieldType} {v : Int32} (hRt : Rt F (some ty) 0 0 (pI S (pR X e))) (hn : narrow ty (.int v) = .int v) (d : decode cc pc = .ok (.ireturn, 1)) (h : v = e) : G F S (0, 0) X pc ls [.int v] := g_iret hC hRt hn rfl d ⟨rfl, v, rfl, rfl, h⟩
theorem g_vretV (hC : Cx F own cc nL rm) {post : gX → Prop} (hRt : Rt F none 0 0 (pV S post)) (d : decode cc pc = .ok (.return_, 1)) (h : post X) : G F S (0, 0) X pc ls [] := g_vret hC hRt rfl d ⟨rfl, rfl, h⟩
theorem g_ishlK (hC : Cx F own cc nL rm) {a b q : Nat} (d : decode cc pc = .ok (.ishl, 1)) (hp : pc + 1 = pc') (hb : b < 32) (hq : 2 ^ b = q) (h : a * q < 4294967296) (k : G F S K X pc' ls (.int (nI (a * q)) :: st)) : G F S K X pc ls (.int (nI b) :: .int (nI a) :: st) := by
  subst hq
  exact g_ishlN hC d hp hb h k
theorem g_ishrK (hC : Cx F own cc nL rm) {a b q : Nat} (d : decode cc pc = .ok (.ishr, 1)) (hp : pc + 1 = pc') (hb : b < 32) (hq : 2 ^ b = q) (h : a < 2147483648) (k : G F S K X pc' ls (.int (nI (a / q)) :: st)) : G F S K X pc ls (.int (nI b) :: .int (nI a) :: st) := by
  subst hq
  exact g_ishrN hC d hp hb h k
theorem g_ishl1 (hC : Cx F own cc nL rm) {b : Nat} (d : decode cc pc = .ok (.ishl, 1)) (hp : pc + 1 = pc') (hb : b < 31) (k : G F S K X pc' ls (.int (nI (2 ^ b)) :: st)) : G F S K X pc ls (.int (nI b) :: .int (nI 1) :: st) := g_ishl hC d hp (by rw [nI_shl1 hb]; exact k)
theorem g_iand15 (hC : Cx F own cc nL rm) {a : Nat} (d : decode cc pc = .ok (.iand, 1)) (hp : pc + 1 = pc') (k : G F S K X pc' ls (.int (nI (a % 16)) :: st)) : G F S K X pc ls (.int (nI 15) :: .int (nI a) :: st) := g_iand hC d hp (by rw [nI_and15]; exact k)
theorem g_iand1 (hC : Cx F own cc nL rm) {a : Nat} (d : decode cc pc = .ok (.iand, 1)) (hp : pc + 1 = pc') (k : G F S K X pc' ls (.int (nI (a % 2)) :: st)) : G F S K X pc ls (.int (nI 1) :: .int (nI a) :: st) := g_iand hC d hp (by rw [nI_and1]; exact k)
theorem g_ifI_eq (hC : Cx F own cc nL rm) {x : Int32} {off : Int} {tgt : Nat} (d : decode cc pc = .ok (.ifCond .eq off, 3)) (ht : (pc : Int) + off = (tgt : Int)) (hp : pc + 3 = pc') (kt : x = nI 0 → G F S K X tgt ls st) (kf : ¬ x = nI 0 → G F S K X pc' ls st) : G F S K X pc ls (.int x :: st) := g_if_eq hC d ht hp kt kf
theorem g_ifI_ne (hC : Cx F own cc nL rm) {x : Int32} {off : Int} {tgt : Nat} (d : decode cc pc = .ok (.ifCond .ne off, 3)) (ht : (pc : Int) + off = (tgt : Int)) (hp : pc + 3 = pc') (kt : ¬ x = nI 0 → G F S K X tgt ls st) (kf : x = nI 0 → G F S K X pc' ls st) : G F S K X pc ls (.int x :: st) := g_if_ne hC d ht hp kt kf
theorem g_tabI (hC : Cx F own cc nL rm) {dflt lo hi : Int} {offs : Array Int} {len : Nat} {x : Int32} {off : Int} {tgt : Nat} (j : Nat) (d : decode cc pc = .ok (.tableswitch dflt lo hi offs, len)) (hx : x = nI j) (hj : j < 2147483648) (h1 : ¬ (j : Int) < lo) (h2 : ¬ hi < (j : Int)) (ho : offs[((j : Int) - lo).toNat]? = some off) (ht : (pc : Int) + off = (tgt : Int)) (k : G F S K X tgt ls st) : G F S K X pc ls (.int x :: st) := by
  have hxt : x.toInt = (j : Int) := by rw [hx]; exact nI_toInt hj
  obtain ⟨p, l, e, R, s, m, args, below, meth, c, Γ, A, Q⟩ := F
  obtain ⟨hx0, hb, hml, hown, hts, hlk, rfl, hK, hA⟩ := hC
  intro H locs L hL hc0 hP hD hS
  exact lv_tableIn hx0 hb d (by rw [hxt]; exact h1) (by rw [hxt]; exact h2) (by rw [hxt]; exact ho) ht (k H locs L hL hc0 hP hD hS)
theorem g_tabO (hC : Cx F own cc nL rm) {dflt hi : Int} {offs : Array Int} {len : Nat} {x : Int32} {tgt : Nat} (d : decode cc pc = .ok (.tableswitch dflt 0 hi offs, len)) (h : ∀ j : Nat, (j : Int) ≤ hi → x ≠ nI j) (ht : (pc : Int) + dflt = (tgt : Int)) (k : G F S K X tgt ls st) : G F S K X pc ls (.int x :: st) := by
  have hxo : x.toInt < 0 ∨ hi < x.toInt := by
    by_cases h0 : x.toInt < 0
    · exact Or.inl h0
    · refine Or.inr (Int.not_le.mp fun h1 => ?_)
      have hz : ¬ x < 0 := by rw [Int32.lt_iff_toInt_lt]; simpa using h0
      obtain ⟨j, hj, rfl⟩ := nI_of hz
      exact h j (by rw [← nI_toInt hj]; exact h1) rfl
  obtain ⟨p, l, e, R, s, m, args, below, meth, c, Γ, A, Q⟩ := F
  obtain ⟨hx0, hb, hml, hown, hts, hlk, rfl, hK, hA⟩ := hC
  intro H locs L hL hc0 hP hD hS
  exact lv_tableOut hx0 hb d hxo ht (k H locs L hL hc0 hP hD hS)
theorem g_lookN (hC : Cx F own cc nL rm) {dflt : Int} {ps : Array (Int × Int)} {len : Nat} {a : Nat} {off : Int} {tgt : Nat} (d : decode cc pc = .ok (.lookupswitch dflt ps, len)) (ha : a < 2147483648) (hp : (ps.toList.zip (ps.toList.drop 1)).all (fun (a, next) => a.1 < next.1) = true) (ho : Op.lookupswitch.offset ps.toList dflt (a : Int) = off) (ht : (pc : Int) + off = (tgt : Int)) (k : G F S K X tgt ls st) : G F S K X pc ls (.int (nI a) :: st) := by
  obtain ⟨p, l, e, R, s, m, args, below, meth, c, Γ, A, Q⟩ := F
  obtain ⟨hx0, hb, hml, hown, hts, hlk, rfl, hK, hA⟩ := hC
  intro H locs L hL hc0 hP hD hS
  exact lv_lookup hx0 hb d hp (by rw [nI_toInt ha]; exact ho) ht (k H locs L hL hc0 hP hD hS)

theorem g_icmpL_gt (hC : Cx F own cc nL rm) {t e : Nat} {off : Int} {tgt : Nat} (d : decode cc pc = .ok (.if_icmp .gt off, 3)) (hz : (pc : Int) + off = (tgt : Int)) (hp : pc + 3 = pc') (ht : t < 1073741824) (he : e < 1073741824) (kt : e ≤ t → G F S K X tgt ls st) (kf : t < e → G F S K X pc' ls st) : G F S K X pc ls (.int (lI e) :: .int (nI t) :: st) := g_icmp_gt hC d hz hp (fun h => kt ((lI_lt he ht).mp h)) (fun h => kf (Nat.not_le.mp fun z => h ((lI_lt he ht).mpr z)))
theorem g_icmpL_le (hC : Cx F own cc nL rm) {t e : Nat} {off : Int} {tgt : Nat} (d : decode cc pc = .ok (.if_icmp .le off, 3)) (hz : (pc : Int) + off = (tgt : Int)) (hp : pc + 3 = pc') (ht : t < 1073741824) (he : e < 1073741824) (kt : t < e → G F S K X tgt ls st) (kf : e ≤ t → G F S K X pc' ls st) : G F S K X pc ls (.int (lI e) :: .int (nI t) :: st) := g_icmp_le hC d hz hp (fun h => kt ((lI_le he ht).mp h)) (fun h => kf (Nat.not_lt.mp fun z => h ((lI_le he ht).mpr z)))
theorem g_icmpL_lt (hC : Cx F own cc nL rm) {t e : Nat} {off : Int} {tgt : Nat} (d : decode cc pc = .ok (.if_icmp .lt off, 3)) (hz : (pc : Int) + off = (tgt : Int)) (hp : pc + 3 = pc') (ht : t < 1073741824) (he : e < 1073741824) (kt : t + 1 < e → G F S K X tgt ls st) (kf : e ≤ t + 1 → G F S K X pc' ls st) : G F S K X pc ls (.int (lI e) :: .int (nI t) :: st) := g_icmp_lt hC d hz hp (fun h => kt ((lI_gt he ht).mp h)) (fun h => kf (Nat.not_lt.mp fun z => h ((lI_gt he ht).mpr z)))
theorem g_icmpL_ge (hC : Cx F own cc nL rm) {t e : Nat} {off : Int} {tgt : Nat} (d : decode cc pc = .ok (.if_icmp .ge off, 3)) (hz : (pc : Int) + off = (tgt : Int)) (hp : pc + 3 = pc') (ht : t < 1073741824) (he : e < 1073741824) (kt : e ≤ t + 1 → G F S K X tgt ls st) (kf : t + 1 < e → G F S K X pc' ls st) : G F S K X pc ls (.int (lI e) :: .int (nI t) :: st) := g_icmp_ge hC d hz hp (fun h => kt ((lI_ge he ht).mp h)) (fun h => kf (Nat.not_le.mp fun z => h ((lI_ge he ht).mpr z)))
end
/-! lists of marks: the mathematics of both sides -/
def upto (P : Nat → Bool) : Nat → Nat
  | 0 => 0
  | n + 1 => if P n then n + 1 else upto P n
def anB (P : Nat → Bool) : Nat → Bool
  | 0 => false
  | n + 1 => anB P n || P n
def cnB (P : Nat → Bool) : Nat → Nat
  | 0 => 0
  | n + 1 => cnB P n + (if P n then 1 else 0)
def smN (f : Nat → Nat) : Nat → Nat
  | 0 => 0
  | n + 1 => smN f n + f n
def mxN (f : Nat → Nat) : Nat → Nat
  | 0 => 0
  | n + 1 => max (mxN f n) (f n)
def msk (P : Nat → Bool) : Nat → Nat
  | 0 => 0
  | n + 1 => msk P n ||| (if P n then 2 ^ n else 0)
theorem upto_le (P : Nat → Bool) : ∀ n, upto P n ≤ n := by
  intro n
  induction n with
  | zero => exact Nat.le_refl _
  | succ n ih => unfold upto; split <;> omega
theorem upto_P {P : Nat → Bool} : ∀ {n : Nat}, upto P n ≠ 0 → P (upto P n - 1) = true := by
  intro n
  induction n with
  | zero => intro h; exact absurd rfl h
  | succ n ih =>
    unfold upto
    split
    · intro _; assumption
    · exact ih
theorem upto_last {P : Nat → Bool} : ∀ {n k : Nat}, k < n → upto P n ≤ k → P k = false := by
  intro n
  induction n with
  | zero => intro k h; omega
  | succ n ih =>
    intro k h h2
    unfold upto at h2
    split at h2
    · omega
    · rename_i hP
      by_cases hk : k = n
      · subst hk; simpa using hP
      · exact ih (by omega) h2
theorem upto_0 {P : Nat → Bool} {n : Nat} (h : upto P n = 0) : ∀ k, k < n → P k = false := fun k hk => upto_last hk (by omega)
theorem anB_iff {P : Nat → Bool} : ∀ {n : Nat}, anB P n = true ↔ ∃ k, k < n ∧ P k = true := by
  intro n
  induction n with
  | zero => simp [anB]
  | succ n ih =>
    unfold anB
    rw [Bool.or_eq_true, ih]
    constructor
    · rintro (⟨k, h1, h2⟩ | h)
      · exact ⟨k, by omega, h2⟩
      · exact ⟨n, by omega, h⟩
    · rintro ⟨k, h1, h2⟩
      by_cases hk : k = n
      · subst hk; exact Or.inr h2
      · exact Or.inl ⟨k, by omega, h2⟩
theorem anB_congr {P Q : Nat → Bool} : ∀ {n : Nat}, (∀ k, k < n → P k = Q k) → anB P n = anB Q n := by
  intro n
  induction n with
  | zero => intro _; rfl
  | succ n ih => intro h; unfold anB; rw [ih (fun k hk => h k (by omega)), h n (by omega)]
theorem upto_congr {P Q : Nat → Bool} : ∀ {n : Nat}, (∀ k, k < n → P k = Q k) → upto P n = upto Q n := by
  intro n
  induction n with
  | zero => intro _; rfl
  | succ n ih => intro h; unfold upto; rw [ih (fun k hk => h k (by omega)), h n (by omega)]
theorem cnB_congr {P Q : Nat → Bool} : ∀ {n : Nat}, (∀ k, k < n → P k = Q k) → cnB P n = cnB Q n := by
  intro n
  induction n with
  | zero => intro _; rfl
  | succ n ih => intro h; unfold cnB; rw [ih (fun k hk => h k (by omega)), h n (by omega)]
theorem smN_congr {P Q : Nat → Nat} : ∀ {n : Nat}, (∀ k, k < n → P k = Q k) → smN P n = smN Q n := by
  intro n
  induction n with
  | zero => intro _; rfl
  | succ n ih => intro h; unfold smN; rw [ih (fun k hk => h k (by omega)), h n (by omega)]
theorem mxN_congr {P Q : Nat → Nat} : ∀ {n : Nat}, (∀ k, k < n → P k = Q k) → mxN P n = mxN Q n := by
  intro n
  induction n with
  | zero => intro _; rfl
  | succ n ih => intro h; unfold mxN; rw [ih (fun k hk => h k (by omega)), h n (by omega)]
theorem msk_congr {P Q : Nat → Bool} : ∀ {n : Nat}, (∀ k, k < n → P k = Q k) → msk P n = msk Q n := by
  intro n
  induction n with
  | zero => intro _; rfl
  | succ n ih => intro h; unfold msk; rw [ih (fun k hk => h k (by omega)), h n (by omega)]
theorem cnB_le (P : Nat → Bool) : ∀ n, cnB P n ≤ n := by
  intro n
  induction n with
  | zero => exact Nat.le_refl _
  | succ n ih => unfold cnB; split <;> omega
theorem smN_le {f : Nat → Nat} {b : Nat} (h : ∀ k, f k ≤ b) : ∀ n, smN f n ≤ n * b := by
  intro n
  induction n with
  | zero => exact Nat.zero_le _
  | succ n ih => unfold smN; have := h n; rw [Nat.succ_mul]; omega
theorem smN_leB {f : Nat → Nat} {b : Nat} : ∀ n, (∀ k, k < n → f k ≤ b) → smN f n ≤ n * b := by
  intro n
  induction n with
  | zero => intro _; exact Nat.zero_le _
  | succ n ih => intro h; unfold smN; have := h n (by omega); have := ih (fun k hk => h k (by omega)); rw [Nat.succ_mul]; omega
theorem mxN_le {f : Nat → Nat} {b : Nat} : ∀ n, (∀ k, k < n → f k ≤ b) → mxN f n ≤ b := by
  intro n
  induction n with
  | zero => intro _; exact Nat.zero_le _
  | succ n ih => intro h; unfold mxN; have := h n (by omega); have := ih (fun k hk => h k (by omega)); omega
theorem le_mxN {f : Nat → Nat} : ∀ n k, k < n → f k ≤ mxN f n := by
  intro n
  induction n with
  | zero => intro k h; omega
  | succ n ih => intro k h; unfold mxN; by_cases hk : k = n
                 · subst hk; omega
                 · have := ih k (by omega); omega
theorem msk_lt (P : Nat → Bool) : ∀ n, msk P n < 2 ^ n := by
  intro n
  induction n with
  | zero => simp [msk]
  | succ n ih =>
    unfold msk
    have h2 : 2 ^ (n + 1) = 2 * 2 ^ n := by rw [Nat.pow_succ]; omega
    refine Nat.or_lt_two_pow (by omega) ?_
    split <;> omega

