/-! THE CLAIM OUT OF ONE WALK OF THE LAW'S BODY. Your part is whole_start (and what it stands on); all else here is the same for every law, but numbers. -/
def R_law : String := "CarbonSheetsLaw"
def lw_P (b : Addr) (xs : List Int32) (args : Array Value) (s : State) : Prop := args = #[.ref b] ∧ s.IntsAt b xs ∧ xs.length ≤ 2560 ∧ (Jvm.Cond.and given_1 narrow_1).before args s = true
def lw_Q (_ : Array Value) (s : State) (o : Outcome) (t : State) : Prop := o = .returned (some (.int 1)) ∧ Framed s o t [] 600000 7302250
def lw_Z (below : List Frame) (a : Array Value) (s : State) : State → Prop := fun t => ∃ o, t.status = .running ∧ Ended t below o ∧ lw_Q a s o t
/-- the law's own end, with 1 on the stack, nothing written that was there before, its room as the claim has it -/
theorem lw_ret {p : Program} {l : Launch} {e : Env} {s : State} {m : MethodId} {below : List Frame} {meth : Method} {c : Code} {b : Nat} (hx : p.tables.exec = Jvm.exec) (hb : c.code = code) (hr : meth.sig.returnType = ret) (hlocks : meth.locks = false) {pc : Nat} {H : Heap} {ls : Array Slot} (hdg : decode code pc = .ok (.ireturn, 1)) : W p l e room_1 s m #[Value.ref b] below meth c H [] 600000 7302250 (lw_Z below #[Value.ref b] s) (F0 m pc ls [.int 1]) := by
  intro T hT X
  obtain ⟨fs, hret, hrun, hended, hW, hframe⟩ := X.leave (v := some (.int 1)) (hlocks := hlocks) (fun h => by rw [hr] at h; cases h)
  have hmeth' : T.vm.method? m = some meth := X.method'
  refine ⟨T.setFrames fs, ?_, .returned (some (.int 1)), hrun, hended, rfl, ⟨_, rfl⟩, hW, hframe⟩
  jvm_step X.here [X.here.top, hx, hb, hdg, hmeth', hr, ret, narrow_b1]
  (try refine ⟨rfl, ?_⟩); (try refine ⟨rfl, ?_⟩)
  first | (intro acts; rw [hret _ acts rfl rfl rfl]) | rw [hret _ _ rfl rfl rfl]
  exact Steps.refl _
/-- what holds at the law's entry: the machine, the code, the tables' words (any of lw_tbl by 'hts w (by decide +kernel)'), the script of L ints xs at the cell b, what the Statement gives of the start (any of its parts by flat_of_before) -/
def lw_At (p : Program) (s : State) (m : MethodId) (meth : Method) (c : Code) (b L : Nat) (xs : Nat → Int32) : Prop :=
  p.tables.exec = Jvm.exec ∧ c.code = code ∧ meth.sig.returnType = ret ∧ c.maxLocals = 4 ∧ s.vm.findClass R_law = some m.cls ∧ (∀ w ∈ lw_tbl, w.before #[Value.ref b] s = true) ∧ va_X b L xs s s.heap ∧ b < s.heap.size ∧ meth.locks = false ∧ (Jvm.Cond.and given_1 narrow_1).before #[Value.ref b] s = true

theorem rn_dead {pad : Nat → Nat} {P j : Nat} {q q' : PSt} (h : rn pad P = some q) (hs : stp q (pad P) = none) (hj : P < j) (e : rn pad j = some q') : False := by
  obtain ⟨q2, h2⟩ := rn_some (i := P + 1) hj ⟨q', e⟩
  rw [rn_s h, hs] at h2
  cases h2
theorem stuck_u {pad : Nat → Nat} {len P P' : Nat} (h : stuck pad len P ∨ stuck7 pad len P) (h' : stuck pad len P' ∨ stuck7 pad len P') : ¬ P < P' := by
  intro hl
  have hq' : P' ≤ len ∧ ∃ q, rn pad P' = some q := by
    rcases h' with ⟨a, q, b, -⟩ | ⟨a, q, b, -⟩
    · exact ⟨a, q, b⟩
    · exact ⟨Nat.le_of_lt a, q, b⟩
  obtain ⟨hle, q', e'⟩ := hq'
  rcases h with ⟨a, q, b, -, d⟩ | ⟨a, q, b, d⟩
  · exact rn_dead b (d (Nat.lt_of_lt_of_le hl hle)) hl e'
  · exact rn_dead b d hl e'
theorem stuck_no {pad : Nat → Nat} {len P : Nat} {q : PSt} (hP : P ≤ len) (h : stuck pad len P ∨ stuck7 pad len P) (e : rn pad len = some q) (h7 : q.1 = 7) : False := by
  rcases h with ⟨a, q', b, d7, d⟩ | ⟨a, q', b, d⟩
  · by_cases hl : P < len
    · exact rn_dead b (d hl) hl e
    · have : P = len := by omega
      subst this
      rw [b] at e
      cases e
      exact d7 h7
  · exact rn_dead b d a e
theorem FT_u {pad : Nat → Nat} {len : Nat} {a b : Int32} (h : FT pad len a) (h' : FT pad len b) : a = b := by
  rcases h with ⟨P, rfl, hP, hs⟩ | ⟨rfl, q, e, h7⟩
  · rcases h' with ⟨P', rfl, hP', hs'⟩ | ⟨rfl, q', e', h7'⟩
    · have h1 := stuck_u hs hs'
      have h2 := stuck_u hs' hs
      rw [show P = P' by omega]
    · exact (stuck_no hP hs e' h7').elim
  · rcases h' with ⟨P', rfl, hP', hs'⟩ | ⟨rfl, q', e', h7'⟩
    · exact (stuck_no hP' hs' e h7).elim
    · rfl
def lgC (a b : Int32) : Int64 := (a.toInt64 <<< ((nI 32).toInt64 &&& 63)) ||| (b.toInt64 &&& 4294967295)
theorem lgC_N (a b : Int32) : ∃ C : Nat, C < 18446744073709551616 ∧ lgC a b = lN C := ⟨(lgC a b).toBitVec.toNat, (lgC a b).toBitVec.isLt, Int64.toBitVec_inj.mp (by rw [wb_tb]; exact BitVec.eq_of_toNat_eq (by rw [BitVec.toNat_ofNat, Nat.mod_eq_of_lt (lgC a b).toBitVec.isLt]))⟩
theorem lw_tst {i L : Nat} (hi : i ≤ 2570) (hL : L ≤ 2560) : nI L - nI 5 < nI i ↔ L < i + 5 := by
  rw [Int32.lt_iff_toInt_lt, pk_sub_toInt (by omega) (by decide), nI_toInt (by omega)]
  omega
/-- the law's script -/
def Sc (F : gF) (b L : Nat) (xs : Nat → Int32) : Prop := match F with
  | (_, _, _, _, s, _, _, _, _, _, _, A, _) => va_X b L xs s s.heap ∧ b < s.heap.size ∧ ¬ A b
/-- the law's own end -/
def Lw (F : gF) (b : Nat) : Prop := match F with
  | (_, _, _, R, s, _, args, below, meth, _, _, A, Q) => R = room_1 ∧ args = #[Value.ref b] ∧ Q = lw_Z below #[Value.ref b] s ∧ meth.sig.returnType = ret ∧ ∀ q, A q → s.heap.size ≤ q
section
variable {F : gF} {own : String} {cc : ByteArray} {nL : Nat} {rm : Room} {S : gS} {K : Nat × Nat} {X : gX} {pc pc' : Nat} {ls st : List Value}
theorem g_sld (hC : Cx F own cc nL rm) {b L i : Nat} {xs : Nat → Int32} (hs : Sc F b L xs) (hab : S.2.2 5000 = b) (hL : L ≤ 2560) (hi : i < L) (d : decode cc pc = .ok (.iaload, 1)) (hp : pc + 1 = pc') (k : G F S K X pc' ls (.int (xs i) :: st)) : G F S K X pc ls (.int (nI i) :: .ref 5000 :: st) := by
  obtain ⟨p, l, e, R, s, m, args, below, meth, c, Γ, A, Q⟩ := F
  obtain ⟨hx, hb, hml, hown, hts, hlk, rfl, hK, hA⟩ := hC
  obtain ⟨hX, hbl, hbA⟩ := hs
  subst hp; subst hab
  intro H locs L1 hL1 hc0 hP hD hS
  refine va_sld hx hb hX hbl hbA hS (vp_inD hi (by omega)) d ?_
  rw [clampD hi (by omega)]
  exact k H locs L1 hL1 hc0 hP hD hS
theorem g_slen (hC : Cx F own cc nL rm) {b L : Nat} {xs : Nat → Int32} (hs : Sc F b L xs) (hab : S.2.2 5000 = b) (d : decode cc pc = .ok (.arraylength, 1)) (hp : pc + 1 = pc') (k : G F S K X pc' ls (.int (nI L) :: st)) : G F S K X pc ls (.ref 5000 :: st) := by
  obtain ⟨p, l, e, R, s, m, args, below, meth, c, Γ, A, Q⟩ := F
  obtain ⟨hx, hb, hml, hown, hts, hlk, rfl, hK, hA⟩ := hC
  obtain ⟨hX, hbl, hbA⟩ := hs
  subst hp; subst hab
  intro H locs L1 hL1 hc0 hP hD hS
  exact va_slen hx hb hX hbl hbA hS d (k H locs L1 hL1 hc0 hP hD hS)
theorem g_lend (hC : Cx F own code nL rm) {b : Nat} (hw : Lw F b) (hf : K.1 ≤ 600000 ∧ K.2 ≤ 7302250) (d : decode code pc = .ok (.ireturn, 1)) : G F S K X pc ls [.int (nI 1)] := by
  obtain ⟨p, l, e, R, s, m, args, below, meth, c, Γ, A, Q⟩ := F
  obtain ⟨hx, hb, hml, hown, hts, hlk, rfl, hK, hA⟩ := hC
  obtain ⟨rfl, rfl, rfl, hr, hAA⟩ := hw
  intro H locs L1 hL1 hc0 hP hD hS
  exact va_forget (fun q hq => hAA _ (hS.2.2 q hq)) (W.widen hf.1 hf.2 (lw_ret hx hb hr hlk d))
end
