def MRc (X : gX) (ok : Bool) (g g' : Nat → Nat) (n : Nat) (h : Nat → Nat → Nat) (b : Bool) : Prop := if ok = true then MR X g' (recN b n) (recH b h n g) b else MR X g n h b
theorem MRc_f {X : gX} {ok : Bool} {g g' : Nat → Nat} {n : Nat} {h : Nat → Nat → Nat} {b : Bool} (e : ok = false) (m : MR X g n h b) : MRc X ok g g' n h b := by unfold MRc; rw [e, if_neg (by decide)]; exact m
theorem MRc_t {X : gX} {ok : Bool} {g g' : Nat → Nat} {n : Nat} {h : Nat → Nat → Nat} {b : Bool} (e : ok = true) (m : MR X g' (recN b n) (recH b h n g) b) : MRc X ok g g' n h b := by unfold MRc; rw [if_pos e]; exact m
theorem RM.updL {X : gX} {g : Nat → Nat} (h : RM X g) {v : Nat} : RM (gu X 202 3 (lI v)) (updN g 3 v) := fun j hj => by
  by_cases hi : j = 3
  · subst hi
    rw [gu_at]
    simp [ar, updN]
  · rw [gu_id hi, h j hj]
    unfold ar updN
    simp [hi]
theorem lI_dec {e : Nat} (h : 1 ≤ e) : lI e - nI 1 = lI (e - 1) := by
  obtain ⟨k, rfl⟩ : ∃ k, e = k + 1 := ⟨e - 1, by omega⟩
  rw [lI_s]
  rfl
theorem lI_decinc (e : Nat) : lI e - nI 1 + nI 1 = lI e := by
  show lI e - 1 + 1 = lI e
  simp
theorem lI_pos {e : Nat} (h : 1 ≤ e) : lI e = nI (e - 1) := by
  rw [show e = e - 1 + 1 by omega, lI_s]
  rfl
def okSet (a w : Int32) : Bool := inB a (nI 0) (nI 1) && (if a = nI 0 then inB w (nI 1) (nI 9) else inB w (nI 0) (nI 5))
def rSet (g : Nat → Nat) (a w : Int32) : Int32 := if okSet a w = true then nI (g (cl a)) else -2
def okThick (a w : Int32) : Bool := inB a (nI 0) (nI 4) && inB w (nI 0) (nI 4)
def rThick (g : Nat → Nat) (a w : Int32) : Int32 := if inB a (nI 0) (nI 4) = true then (if inB w (nI 0) (nI 4) = true then nI (g (4 + cl a)) else -2) else -1
def okCarb (g : Nat → Nat) (a w : Int32) : Bool := inB a (nI 0) (nI 4) && (inB w (nI 0) (nI 300) && inS g (cl a))
def rCarb (g : Nat → Nat) (a w : Int32) : Int32 := if inB a (nI 0) (nI 4) = true then (if inB w (nI 0) (nI 300) = true then (if inS g (cl a) = true then nI (g (9 + cl a)) else -5) else -2) else -1
def okWrt (g : Nat → Nat) (a v p : Int32) : Bool := inB a (nI 0) (nI 9) && (inB v (nI 0) (nI 999) && (inB p (nI 1) (nI 9) && (decide (g 2 < g 3) && !full g (cl a) (cl p))))
def rWrt (g : Nat → Nat) (a v p : Int32) : Int32 := if okWrt g a v p = true then nI (reach g (cl p)) else barI g a v p
def okStr (g : Nat → Nat) (a p : Int32) : Bool := inB a (nI 0) (nI 9) && (inB p (nI 1) (nI 9) && decide (g 2 < g 3))
def rStr (g : Nat → Nat) (a p : Int32) : Int32 := if inB a (nI 0) (nI 9) = true then (if inB p (nI 1) (nI 9) = true then (if g 2 < g 3 then nI (strN g (cl a) (cl p)) else -5) else -2) else -1
def okTear (g : Nat → Nat) (a : Int32) : Bool := inB a (nI 0) (nI 1) && decide (g 2 < g 3)
def rTear (g : Nat → Nat) (a : Int32) : Int32 := if inB a (nI 0) (nI 1) = true then (if g 2 < g 3 then (if cl a = 0 then nI (g 2) else lI (g 3)) else -5) else -2
def gTear (g : Nat → Nat) (a : Int32) : Nat → Nat := if cl a = 0 then updN g 2 (g 2 + 1) else updN g 3 (g 3 - 1)
def shut (g : Nat → Nat) (s : Nat) : Bool := inS g s && !decide (s = g 2)
def okPaint (g : Nat → Nat) (a b : Int32) : Bool := inB a (nI 0) (nI 4) && (inB b (nI 0) (nI 9) && !shut g (cl a))
def rPaint (g : Nat → Nat) (a b : Int32) : Int32 := if inB a (nI 0) (nI 4) = true then (if inB b (nI 0) (nI 9) = true then (if shut g (cl a) = true then -5 else nI (cnB (stt g (cl a) (cl b) 9) (cnt g (cl a) (cl b)))) else -1) else -1
def apt (g : Nat → Nat) (s f : Nat) (z : Bool) : Nat → Nat := updN g (14 + s) (g (14 + s) ||| (if z = true then 0 else 2 ^ f))
def gPaint (g : Nat → Nat) (a b : Int32) : Nat → Nat := stk (apt g (cl a) (cl b) (inS g (cl a))) (cl a) (cl b) 9
def okAmend (g : Nat → Nat) (a b v p : Int32) : Bool := inB a (nI 0) (nI 4) && (inB b (nI 0) (nI 9) && (inB v (nI 0) (nI 999) && (inB p (nI 1) (nI 9) && (!inS g (cl a) && !decide (cnt g (cl a) (cl b) = 8)))))
def rAmend (g : Nat → Nat) (a b v p : Int32) : Int32 := if inB a (nI 0) (nI 4) = true then (if inB b (nI 0) (nI 9) = true then (if inB v (nI 0) (nI 999) = true then (if inB p (nI 1) (nI 9) = true then (if inS g (cl a) = true then -5 else if cnt g (cl a) (cl b) = 8 then -4 else nI (cnt g (cl a) (cl b) + 1)) else -2) else -2) else -1) else -1
def gAmend (g : Nat → Nat) (a b v p : Int32) : Nat → Nat := addm (apt g (cl a) (cl b) false) (cl a) (cl b) (cl v) (cl p)
theorem apt_lt {g : Nat → Nat} (hI : Inv g) {s f : Nat} {z : Bool} (hs : s < 5) (hf : f < 10) : (g (14 + s) ||| (if z = true then 0 else 2 ^ f)) < 1024 := by
  have h1 := (hI.t hs).2.2
  have h2 : (if z = true then 0 else 2 ^ f) < 2 ^ 10 := by
    split
    · decide
    · exact Nat.pow_lt_pow_right (by decide) hf
  exact Nat.or_lt_two_pow (n := 10) h1 h2
theorem Inv_apt {g : Nat → Nat} (hI : Inv g) {s f : Nat} {z : Bool} (hs : s < 5) (hf : f < 10) : Inv (apt g s f z) := by
  have hlt := apt_lt (z := z) hI hs hf
  have e : ∀ j, j ≠ 14 + s → apt g s f z j = g j := fun j hj => by unfold apt updN; rw [if_neg hj]
  refine ⟨?_, ?_, ?_, ?_, ?_⟩
  · rw [e 0 (by omega), e 1 (by omega), e 2 (by omega), e 3 (by omega)]; exact hI.1
  · intro t ht
    rw [e (4 + t) (by omega), e (9 + t) (by omega)]
    refine ⟨(hI.t ht).1, (hI.t ht).2.1, ?_⟩
    by_cases hts : t = s
    · subst hts
      unfold apt updN
      rw [if_pos rfl]
      exact hlt
    · rw [e (14 + t) (by omega)]; exact (hI.t ht).2.2
  · intro s' f' a b
    unfold cnt
    rw [e _ (by omega)]
    exact hI.c a b
  · intro s' f' k a b c
    unfold mk
    rw [e _ (by omega)]
    exact hI.m a b c
  · intro s' f' k a b c
    unfold cnt at c
    unfold mk
    rw [e _ (by omega)] at c
    rw [e _ (by omega)]
    exact hI.p a b c
theorem apt_cnt {g : Nat → Nat} {s f s' f' : Nat} {z : Bool} (h : s < 5) (hs : s' < 5) (hf : f' < 10) : cnt (apt g s f z) s' f' = cnt g s' f' := by
  unfold cnt apt updN
  rw [if_neg (by omega)]
theorem apt_mk {g : Nat → Nat} {s f s' f' k : Nat} {z : Bool} (h : s < 5) : mk (apt g s f z) s' f' k = mk g s' f' k := by
  unfold mk apt updN
  rw [if_neg (by omega)]
theorem apt_stt {g : Nat → Nat} {s f q : Nat} {z : Bool} (h : s < 5) (hf : f < 10) : cnB (stt (apt g s f z) s f q) (cnt (apt g s f z) s f) = cnB (stt g s f q) (cnt g s f) := by
  rw [apt_cnt h h hf]
  refine cnB_congr (fun j hj => ?_)
  unfold stt
  rw [apt_mk h]
theorem okWrt_iff {g : Nat → Nat} {a v p : Int32} (h : okWrt g a v p = true) : ∃ f w q, a = nI f ∧ v = nI w ∧ p = nI q ∧ f ≤ 9 ∧ w ≤ 999 ∧ 1 ≤ q ∧ q ≤ 9 ∧ g 2 < g 3 ∧ full g f q = false ∧ barI g a v p = nI 0 := by
  simp only [okWrt, Bool.and_eq_true, decide_eq_true_eq, Bool.not_eq_true', Bool.not_eq_eq_eq_not, Bool.not_true] at h
  obtain ⟨h1, h2, h3, h4, h5⟩ := h
  obtain ⟨f, rfl, -, hf⟩ := inB_N (by decide) h1 (by decide)
  obtain ⟨w, rfl, -, hw⟩ := inB_N (by decide) h2 (by decide)
  obtain ⟨q, rfl, hq1, hq⟩ := inB_N (by decide) h3 (by decide)
  rw [cl_nI (by omega), cl_nI (by omega)] at h5
  refine ⟨f, w, q, rfl, rfl, rfl, hf, hw, hq1, hq, h4, h5, ?_⟩
  unfold barI
  rw [cl_nI (by omega), cl_nI (by omega), h1, h2, h3, h5]
  simp [h4]
theorem bar_neg {g : Nat → Nat} {a v p : Int32} (h : okWrt g a v p = false) : barI g a v p < 0 := by
  unfold okWrt at h
  unfold barI
  cases h1 : inB a (nI 0) (nI 9) with
  | false => rw [if_neg (by decide)]; decide
  | true =>
    rw [if_pos rfl]
    cases h2 : inB v (nI 0) (nI 999) with
    | false => rw [if_neg (by decide)]; decide
    | true =>
      rw [if_pos rfl]
      cases h3 : inB p (nI 1) (nI 9) with
      | false => rw [if_neg (by decide)]; decide
      | true =>
        rw [if_pos rfl]
        rw [h1, h2, h3] at h
        by_cases h4 : g 2 < g 3
        · rw [if_pos h4]
          rw [decide_eq_true h4] at h
          cases h5 : full g (cl a) (cl p) with
          | false => rw [h5] at h; cases h
          | true => rw [if_pos rfl]; decide
        · rw [if_neg h4]; decide

set_option maxHeartbeats 4000000 in
set_option maxRecDepth 100000 in
theorem c_set {l : Launch} {ad : Nat → Nat} {X : gX} {a w : Int32} {n : Nat} {h : Nat → Nat → Nat} {b : Bool} {g : Nat → Nat} (hm : MR X g n h b) (hI : Inv g) : K_X7_set l ad [.ref 201, .int (a), .int (w)] X (fun rr X' => rr = rSet g a w ∧ MRc X' (okSet a w) g (updN g (cl a) (cl w)) n h b ∧ fW X X') := by
  refine Ct.of [.ref 201, .int (a), .int (w), .null] 1 (by decide +kernel) rfl (Nat.le_of_ble_eq_true rfl) (fun F hl hC hRt _ => ?_)
  subst hl
  refine g_iload_1 hC dX7_set_0 (pc' := 1) rfl ?_
  refine g_iconst hC dX7_set_1 (pc' := 2) kc_iconst_0 rfl ?_
  refine g_iconst hC dX7_set_2 (pc' := 3) kc_iconst_1 rfl ?_
  refine g_callS3R hC (c_in) ml_X7_43 ⟨(Nat.le_of_ble_eq_true rfl), (Nat.le_of_ble_eq_true rfl)⟩ (Nat.le_of_ble_eq_true rfl) dX7_set_3 (pc' := 6) rfl ⟨Nat.zero_le _, Nat.zero_le _⟩ ?_
  refine g_ifZ_eq hC dX7_set_6 (pc' := 9) (tgt := 35) (by decide) rfl (fun h6 => ?_) (fun h6 => ?_)
  · refine g_bipush hC dX7_set_35 (pc' := 37) kc_bipush_m2 rfl ?_
    refine g_iretI hC hRt rfl dX7_set_37 ?_
    refine ⟨?_, MRc_f ?_ hm, fW.rf⟩
    · simp only [rSet, okSet, cl_nI, h6, ↓reduceIte, Bool.false_eq_true, Bool.and_true, Bool.true_and, Bool.and_false, Bool.false_and]
    · simp only [okSet, cl_nI, h6, ↓reduceIte, Bool.false_eq_true, Bool.and_true, Bool.true_and, Bool.and_false, Bool.false_and, decide_true, decide_false, Bool.not_true, Bool.not_false]
  · obtain ⟨d, rfl, -, hd⟩ := inB_N (by decide) h6 (by decide)
    have cd : cl (nI d) = d := cl_nI (by omega)
    refine g_iload_2 hC dX7_set_9 (pc' := 10) rfl ?_
    refine g_iload_1 hC dX7_set_10 (pc' := 11) rfl ?_
    refine g_ifN_ne hC dX7_set_11 (pc' := 14) (tgt := 18) (by decide) rfl (by omega) (fun h11 => ?_) (fun h11 => ?_)
    · have hd0 : ¬ nI d = nI 0 := fun z => h11 ((nI_eqD (by omega) (by decide)).mp z)
      refine g_iconst hC dX7_set_18 (pc' := 19) kc_iconst_0 rfl ?_
      refine g_iload_1 hC dX7_set_19 (pc' := 20) rfl ?_
      refine g_ifN_ne hC dX7_set_20 (pc' := 23) (tgt := 28) (by decide) rfl (by omega) (fun h20 => ?_) (fun h20 => by omega)
      refine g_iconst hC dX7_set_28 (pc' := 29) kc_iconst_5 rfl ?_
      refine g_callS3R hC (c_in) ml_X7_43 ⟨(Nat.le_of_ble_eq_true rfl), (Nat.le_of_ble_eq_true rfl)⟩ (Nat.le_of_ble_eq_true rfl) dX7_set_29 (pc' := 32) rfl ⟨Nat.zero_le _, Nat.zero_le _⟩ ?_
      refine g_ifZ_ne hC dX7_set_32 (pc' := 35) (tgt := 38) (by decide) rfl (fun h32 => ?_) (fun h32 => ?_)
      · obtain ⟨z, rfl, -, hz⟩ := inB_N (by decide) h32 (by decide)
        have cz : cl (nI z) = z := cl_nI (by omega)
        refine g_aload_0 hC dX7_set_38 (pc' := 39) rfl ?_
        refine g_callV0V hC (c_record hm hI) ml_X7_47 (sh_M ad) rfl ⟨(Nat.le_of_ble_eq_true rfl), (Nat.le_of_ble_eq_true rfl)⟩ (Nat.le_of_ble_eq_true rfl) dX7_set_39 (pc' := 42) rfl ⟨Nat.zero_le _, Nat.zero_le _⟩ (fun X39 q39 => ?_)
        obtain ⟨m39, f39⟩ := q39
        refine g_aload_0 hC dX7_set_42 (pc' := 43) rfl ?_
        refine g_getR hC fl_X7_7 (sh_M ad) rfl dX7_set_43 (pc' := 46) rfl ?_
        refine g_iload_1 hC dX7_set_46 (pc' := 47) rfl ?_
        refine g_iald hC (sh_mnow ad) (Nat.le_of_ble_eq_true rfl) (by omega) (m39.1.at (by omega) (by omega)) dX7_set_47 (pc' := 48) rfl ?_
        refine g_istore_3 hC dX7_set_48 (pc' := 49) rfl (Nat.le_of_ble_eq_true rfl) rfl ?_
        refine g_aload_0 hC dX7_set_49 (pc' := 50) rfl ?_
        refine g_getR hC fl_X7_7 (sh_M ad) rfl dX7_set_50 (pc' := 53) rfl ?_
        refine g_iload_1 hC dX7_set_53 (pc' := 54) rfl ?_
        refine g_iload_2 hC dX7_set_54 (pc' := 55) rfl ?_
        refine g_iast hC (sh_mnow ad) (Nat.le_of_ble_eq_true rfl) (by omega) dX7_set_55 (pc' := 56) rfl ?_
        refine g_iload_3 hC dX7_set_56 (pc' := 57) rfl ?_
        refine g_iretI hC hRt rfl dX7_set_57 ?_
        refine ⟨?_, MRc_t ?_ ?_, f39.tr (fW.n gu_ne)⟩
        · simp only [rSet, okSet, cl_nI, h6, cd, eq_false h11, eq_false hd0, eq_false h20, h32, cz, ↓reduceIte, Bool.false_eq_true, Bool.and_true, Bool.true_and]
        · simp only [okSet, cl_nI, h6, cd, eq_false h11, eq_false hd0, eq_false h20, h32, cz, ↓reduceIte, Bool.false_eq_true, Bool.and_true, Bool.true_and, decide_true, decide_false, Bool.not_true, Bool.not_false]
        · rw [cd, cz]
          exact m39.n (m39.1.upd (by omega)) gu_ne
      · refine g_bipush hC dX7_set_35 (pc' := 37) kc_bipush_m2 rfl ?_
        refine g_iretI hC hRt rfl dX7_set_37 ?_
        refine ⟨?_, MRc_f ?_ hm, fW.rf⟩
        · simp only [rSet, okSet, cl_nI, h6, cd, eq_false h11, eq_false hd0, eq_false h20, h32, ↓reduceIte, Bool.false_eq_true, Bool.and_true, Bool.true_and, Bool.and_false, Bool.false_and]
        · simp only [okSet, cl_nI, h6, cd, eq_false h11, eq_false hd0, eq_false h20, h32, ↓reduceIte, Bool.false_eq_true, Bool.and_true, Bool.true_and, Bool.and_false, Bool.false_and, decide_true, decide_false, Bool.not_true, Bool.not_false]
    · have hd0 : nI d = nI 0 := by rw [h11]
      refine g_iconst hC dX7_set_14 (pc' := 15) kc_iconst_1 rfl ?_
      refine g_goto hC dX7_set_15 (tgt := 19) (by decide) ?_
      refine g_iload_1 hC dX7_set_19 (pc' := 20) rfl ?_
      refine g_ifN_ne hC dX7_set_20 (pc' := 23) (tgt := 28) (by decide) rfl (by omega) (fun h20 => by omega) (fun h20 => ?_)
      refine g_bipush hC dX7_set_23 (pc' := 25) kc_bipush_9 rfl ?_
      refine g_goto hC dX7_set_25 (tgt := 29) (by decide) ?_
      refine g_callS3R hC (c_in) ml_X7_43 ⟨(Nat.le_of_ble_eq_true rfl), (Nat.le_of_ble_eq_true rfl)⟩ (Nat.le_of_ble_eq_true rfl) dX7_set_29 (pc' := 32) rfl ⟨Nat.zero_le _, Nat.zero_le _⟩ ?_
      refine g_ifZ_ne hC dX7_set_32 (pc' := 35) (tgt := 38) (by decide) rfl (fun h32 => ?_) (fun h32 => ?_)
      · obtain ⟨z, rfl, -, hz⟩ := inB_N (by decide) h32 (by decide)
        have cz : cl (nI z) = z := cl_nI (by omega)
        refine g_aload_0 hC dX7_set_38 (pc' := 39) rfl ?_
        refine g_callV0V hC (c_record hm hI) ml_X7_47 (sh_M ad) rfl ⟨(Nat.le_of_ble_eq_true rfl), (Nat.le_of_ble_eq_true rfl)⟩ (Nat.le_of_ble_eq_true rfl) dX7_set_39 (pc' := 42) rfl ⟨Nat.zero_le _, Nat.zero_le _⟩ (fun X39 q39 => ?_)
        obtain ⟨m39, f39⟩ := q39
        refine g_aload_0 hC dX7_set_42 (pc' := 43) rfl ?_
        refine g_getR hC fl_X7_7 (sh_M ad) rfl dX7_set_43 (pc' := 46) rfl ?_
        refine g_iload_1 hC dX7_set_46 (pc' := 47) rfl ?_
        refine g_iald hC (sh_mnow ad) (Nat.le_of_ble_eq_true rfl) (by omega) (m39.1.at (by omega) (by omega)) dX7_set_47 (pc' := 48) rfl ?_
        refine g_istore_3 hC dX7_set_48 (pc' := 49) rfl (Nat.le_of_ble_eq_true rfl) rfl ?_
        refine g_aload_0 hC dX7_set_49 (pc' := 50) rfl ?_
        refine g_getR hC fl_X7_7 (sh_M ad) rfl dX7_set_50 (pc' := 53) rfl ?_
        refine g_iload_1 hC dX7_set_53 (pc' := 54) rfl ?_
        refine g_iload_2 hC dX7_set_54 (pc' := 55) rfl ?_
        refine g_iast hC (sh_mnow ad) (Nat.le_of_ble_eq_true rfl) (by omega) dX7_set_55 (pc' := 56) rfl ?_
        refine g_iload_3 hC dX7_set_56 (pc' := 57) rfl ?_
        refine g_iretI hC hRt rfl dX7_set_57 ?_
        refine ⟨?_, MRc_t ?_ ?_, f39.tr (fW.n gu_ne)⟩
        · simp only [rSet, okSet, cl_nI, h6, cd, eq_true h11, eq_true hd0, eq_true h20, h32, cz, ↓reduceIte, Bool.false_eq_true, Bool.and_true, Bool.true_and]
        · simp only [okSet, cl_nI, h6, cd, eq_true h11, eq_true hd0, eq_true h20, h32, cz, ↓reduceIte, Bool.false_eq_true, Bool.and_true, Bool.true_and, decide_true, decide_false, Bool.not_true, Bool.not_false]
        · rw [cd, cz]
          exact m39.n (m39.1.upd (by omega)) gu_ne
      · refine g_bipush hC dX7_set_35 (pc' := 37) kc_bipush_m2 rfl ?_
        refine g_iretI hC hRt rfl dX7_set_37 ?_
        refine ⟨?_, MRc_f ?_ hm, fW.rf⟩
        · simp only [rSet, okSet, cl_nI, h6, cd, eq_true h11, eq_true hd0, eq_true h20, h32, ↓reduceIte, Bool.false_eq_true, Bool.and_true, Bool.true_and, Bool.and_false, Bool.false_and]
        · simp only [okSet, cl_nI, h6, cd, eq_true h11, eq_true hd0, eq_true h20, h32, ↓reduceIte, Bool.false_eq_true, Bool.and_true, Bool.true_and, Bool.and_false, Bool.false_and, decide_true, decide_false, Bool.not_true, Bool.not_false]

set_option maxHeartbeats 4000000 in
set_option maxRecDepth 100000 in
theorem c_thickness {l : Launch} {ad : Nat → Nat} {X : gX} {a w : Int32} {n : Nat} {h : Nat → Nat → Nat} {b : Bool} {g : Nat → Nat} (hm : MR X g n h b) (hI : Inv g) : K_X7_thickness l ad [.ref 201, .int (a), .int (w)] X (fun rr X' => rr = rThick g a w ∧ MRc X' (okThick a w) g (updN g (4 + cl a) (cl w)) n h b ∧ fW X X') := by
  refine Ct.of [.ref 201, .int (a), .int (w), .null] 1 (by decide +kernel) rfl (Nat.le_of_ble_eq_true rfl) (fun F hl hC hRt _ => ?_)
  subst hl
  refine g_iload_1 hC dX7_thickness_0 (pc' := 1) rfl ?_
  refine g_callS1R hC (c_isSheet) ml_X7_50 ⟨(Nat.le_of_ble_eq_true rfl), (Nat.le_of_ble_eq_true rfl)⟩ (Nat.le_of_ble_eq_true rfl) dX7_thickness_1 (pc' := 4) rfl ⟨Nat.zero_le _, Nat.zero_le _⟩ ?_
  refine g_ifZ_ne hC dX7_thickness_4 (pc' := 7) (tgt := 9) (by decide) rfl (fun h4 => ?_) (fun h4 => ?_)
  · obtain ⟨s, rfl, -, hs⟩ := inB_N (by decide) h4 (by decide)
    have cs : cl (nI s) = s := cl_nI (by omega)
    refine g_iload_2 hC dX7_thickness_9 (pc' := 10) rfl ?_
    refine g_iconst hC dX7_thickness_10 (pc' := 11) kc_iconst_0 rfl ?_
    refine g_iconst hC dX7_thickness_11 (pc' := 12) kc_iconst_4 rfl ?_
    refine g_callS3R hC (c_in) ml_X7_43 ⟨(Nat.le_of_ble_eq_true rfl), (Nat.le_of_ble_eq_true rfl)⟩ (Nat.le_of_ble_eq_true rfl) dX7_thickness_12 (pc' := 15) rfl ⟨Nat.zero_le _, Nat.zero_le _⟩ ?_
    refine g_ifZ_ne hC dX7_thickness_15 (pc' := 18) (tgt := 21) (by decide) rfl (fun h15 => ?_) (fun h15 => ?_)
    · obtain ⟨z, rfl, -, hz⟩ := inB_N (by decide) h15 (by decide)
      have cz : cl (nI z) = z := cl_nI (by omega)
      refine g_aload_0 hC dX7_thickness_21 (pc' := 22) rfl ?_
      refine g_callV0V hC (c_record hm hI) ml_X7_47 (sh_M ad) rfl ⟨(Nat.le_of_ble_eq_true rfl), (Nat.le_of_ble_eq_true rfl)⟩ (Nat.le_of_ble_eq_true rfl) dX7_thickness_22 (pc' := 25) rfl ⟨Nat.zero_le _, Nat.zero_le _⟩ (fun X22 q22 => ?_)
      obtain ⟨m22, f22⟩ := q22
      refine g_aload_0 hC dX7_thickness_25 (pc' := 26) rfl ?_
      refine g_getR hC fl_X7_7 (sh_M ad) rfl dX7_thickness_26 (pc' := 29) rfl ?_
      refine g_iconst hC dX7_thickness_29 (pc' := 30) kc_iconst_4 rfl ?_
      refine g_iload_1 hC dX7_thickness_30 (pc' := 31) rfl ?_
      refine g_iaddN hC dX7_thickness_31 (pc' := 32) rfl ?_
      refine g_iald hC (sh_mnow ad) (Nat.le_of_ble_eq_true rfl) (by omega) (m22.1.at (by omega) (by omega)) dX7_thickness_32 (pc' := 33) rfl ?_
      refine g_istore_3 hC dX7_thickness_33 (pc' := 34) rfl (Nat.le_of_ble_eq_true rfl) rfl ?_
      refine g_aload_0 hC dX7_thickness_34 (pc' := 35) rfl ?_
      refine g_getR hC fl_X7_7 (sh_M ad) rfl dX7_thickness_35 (pc' := 38) rfl ?_
      refine g_iconst hC dX7_thickness_38 (pc' := 39) kc_iconst_4 rfl ?_
      refine g_iload_1 hC dX7_thickness_39 (pc' := 40) rfl ?_
      refine g_iaddN hC dX7_thickness_40 (pc' := 41) rfl ?_
      refine g_iload_2 hC dX7_thickness_41 (pc' := 42) rfl ?_
      refine g_iast hC (sh_mnow ad) (Nat.le_of_ble_eq_true rfl) (by omega) dX7_thickness_42 (pc' := 43) rfl ?_
      refine g_iload_3 hC dX7_thickness_43 (pc' := 44) rfl ?_
      refine g_iretI hC hRt rfl dX7_thickness_44 ?_
      refine ⟨?_, MRc_t ?_ ?_, f22.tr (fW.n gu_ne)⟩
      · simp only [rThick, okThick, cl_nI, h4, cs, h15, cz, ↓reduceIte, Bool.false_eq_true, Bool.and_true, Bool.true_and]
      · simp only [okThick, cl_nI, h4, cs, h15, cz, ↓reduceIte, Bool.false_eq_true, Bool.and_true, Bool.true_and, decide_true, decide_false, Bool.not_true, Bool.not_false]
      · rw [cs, cz]
        exact m22.n (m22.1.upd (by omega)) gu_ne
    · refine g_bipush hC dX7_thickness_18 (pc' := 20) kc_bipush_m2 rfl ?_
      refine g_iretI hC hRt rfl dX7_thickness_20 ?_
      refine ⟨?_, MRc_f ?_ hm, fW.rf⟩
      · simp only [rThick, okThick, cl_nI, h4, cs, h15, ↓reduceIte, Bool.false_eq_true, Bool.and_true, Bool.true_and, Bool.and_false, Bool.false_and]
      · simp only [okThick, cl_nI, h4, cs, h15, ↓reduceIte, Bool.false_eq_true, Bool.and_true, Bool.true_and, Bool.and_false, Bool.false_and, decide_true, decide_false, Bool.not_true, Bool.not_false]
  · refine g_iconst hC dX7_thickness_7 (pc' := 8) kc_iconst_m1 rfl ?_
    refine g_iretI hC hRt rfl dX7_thickness_8 ?_
    refine ⟨?_, MRc_f ?_ hm, fW.rf⟩
    · simp only [rThick, okThick, cl_nI, h4, ↓reduceIte, Bool.false_eq_true, Bool.and_true, Bool.true_and, Bool.and_false, Bool.false_and]
    · simp only [okThick, cl_nI, h4, ↓reduceIte, Bool.false_eq_true, Bool.and_true, Bool.true_and, Bool.and_false, Bool.false_and, decide_true, decide_false, Bool.not_true, Bool.not_false]

set_option maxHeartbeats 4000000 in
set_option maxRecDepth 100000 in
theorem c_carbon {l : Launch} {ad : Nat → Nat} {X : gX} {a w : Int32} {n : Nat} {h : Nat → Nat → Nat} {b : Bool} {g : Nat → Nat} (hm : MR X g n h b) (hI : Inv g) : K_X7_carbon l ad [.ref 201, .int (a), .int (w)] X (fun rr X' => rr = rCarb g a w ∧ MRc X' (okCarb g a w) g (updN g (9 + cl a) (cl w)) n h b ∧ fW X X') := by
  refine Ct.of [.ref 201, .int (a), .int (w), .null] 1 (by decide +kernel) rfl (Nat.le_of_ble_eq_true rfl) (fun F hl hC hRt _ => ?_)
  subst hl
  refine g_iload_1 hC dX7_carbon_0 (pc' := 1) rfl ?_
  refine g_callS1R hC (c_isSheet) ml_X7_50 ⟨(Nat.le_of_ble_eq_true rfl), (Nat.le_of_ble_eq_true rfl)⟩ (Nat.le_of_ble_eq_true rfl) dX7_carbon_1 (pc' := 4) rfl ⟨Nat.zero_le _, Nat.zero_le _⟩ ?_
  refine g_ifZ_ne hC dX7_carbon_4 (pc' := 7) (tgt := 9) (by decide) rfl (fun h4 => ?_) (fun h4 => ?_)
  · obtain ⟨s, rfl, -, hs⟩ := inB_N (by decide) h4 (by decide)
    have cs : cl (nI s) = s := cl_nI (by omega)
    refine g_iload_2 hC dX7_carbon_9 (pc' := 10) rfl ?_
    refine g_iconst hC dX7_carbon_10 (pc' := 11) kc_iconst_0 rfl ?_
    refine g_sipush hC dX7_carbon_11 (pc' := 14) kc_sipush_300 rfl ?_
    refine g_callS3R hC (c_in) ml_X7_43 ⟨(Nat.le_of_ble_eq_true rfl), (Nat.le_of_ble_eq_true rfl)⟩ (Nat.le_of_ble_eq_true rfl) dX7_carbon_14 (pc' := 17) rfl ⟨Nat.zero_le _, Nat.zero_le _⟩ ?_
    refine g_ifZ_ne hC dX7_carbon_17 (pc' := 20) (tgt := 23) (by decide) rfl (fun h17 => ?_) (fun h17 => ?_)
    · obtain ⟨z, rfl, -, hz⟩ := inB_N (by decide) h17 (by decide)
      have cz : cl (nI z) = z := cl_nI (by omega)
      refine g_aload_0 hC dX7_carbon_23 (pc' := 24) rfl ?_
      refine g_iload_1 hC dX7_carbon_24 (pc' := 25) rfl ?_
      refine g_callV1R hC (c_isInStack (s := s) (by omega) hm.1 hI) ml_X7_54 (sh_M ad) rfl ⟨(Nat.le_of_ble_eq_true rfl), (Nat.le_of_ble_eq_true rfl)⟩ (Nat.le_of_ble_eq_true rfl) dX7_carbon_25 (pc' := 28) rfl ⟨Nat.zero_le _, Nat.zero_le _⟩ ?_
      refine g_ifZ_ne hC dX7_carbon_28 (pc' := 31) (tgt := 34) (by decide) rfl (fun h28 => ?_) (fun h28 => ?_)
      · refine g_aload_0 hC dX7_carbon_34 (pc' := 35) rfl ?_
        refine g_callV0V hC (c_record hm hI) ml_X7_47 (sh_M ad) rfl ⟨(Nat.le_of_ble_eq_true rfl), (Nat.le_of_ble_eq_true rfl)⟩ (Nat.le_of_ble_eq_true rfl) dX7_carbon_35 (pc' := 38) rfl ⟨Nat.zero_le _, Nat.zero_le _⟩ (fun X35 q35 => ?_)
        obtain ⟨m35, f35⟩ := q35
        refine g_aload_0 hC dX7_carbon_38 (pc' := 39) rfl ?_
        refine g_getR hC fl_X7_7 (sh_M ad) rfl dX7_carbon_39 (pc' := 42) rfl ?_
        refine g_bipush hC dX7_carbon_42 (pc' := 44) kc_bipush_9 rfl ?_
        refine g_iload_1 hC dX7_carbon_44 (pc' := 45) rfl ?_
        refine g_iaddN hC dX7_carbon_45 (pc' := 46) rfl ?_
        refine g_iald hC (sh_mnow ad) (Nat.le_of_ble_eq_true rfl) (by omega) (m35.1.at (by omega) (by omega)) dX7_carbon_46 (pc' := 47) rfl ?_
        refine g_istore_3 hC dX7_carbon_47 (pc' := 48) rfl (Nat.le_of_ble_eq_true rfl) rfl ?_
        refine g_aload_0 hC dX7_carbon_48 (pc' := 49) rfl ?_
        refine g_getR hC fl_X7_7 (sh_M ad) rfl dX7_carbon_49 (pc' := 52) rfl ?_
        refine g_bipush hC dX7_carbon_52 (pc' := 54) kc_bipush_9 rfl ?_
        refine g_iload_1 hC dX7_carbon_54 (pc' := 55) rfl ?_
        refine g_iaddN hC dX7_carbon_55 (pc' := 56) rfl ?_
        refine g_iload_2 hC dX7_carbon_56 (pc' := 57) rfl ?_
        refine g_iast hC (sh_mnow ad) (Nat.le_of_ble_eq_true rfl) (by omega) dX7_carbon_57 (pc' := 58) rfl ?_
        refine g_iload_3 hC dX7_carbon_58 (pc' := 59) rfl ?_
        refine g_iretI hC hRt rfl dX7_carbon_59 ?_
        refine ⟨?_, MRc_t ?_ ?_, f35.tr (fW.n gu_ne)⟩
        · simp only [rCarb, okCarb, cl_nI, h4, cs, h17, cz, h28, ↓reduceIte, Bool.false_eq_true, Bool.and_true, Bool.true_and]
        · simp only [okCarb, cl_nI, h4, cs, h17, cz, h28, ↓reduceIte, Bool.false_eq_true, Bool.and_true, Bool.true_and, decide_true, decide_false, Bool.not_true, Bool.not_false]
        · rw [cs, cz]
          exact m35.n (m35.1.upd (by omega)) gu_ne
      · refine g_bipush hC dX7_carbon_31 (pc' := 33) kc_bipush_m5 rfl ?_
        refine g_iretI hC hRt rfl dX7_carbon_33 ?_
        refine ⟨?_, MRc_f ?_ hm, fW.rf⟩
        · simp only [rCarb, okCarb, cl_nI, h4, cs, h17, cz, h28, ↓reduceIte, Bool.false_eq_true, Bool.and_true, Bool.true_and, Bool.and_false, Bool.false_and]
        · simp only [okCarb, cl_nI, h4, cs, h17, cz, h28, ↓reduceIte, Bool.false_eq_true, Bool.and_true, Bool.true_and, Bool.and_false, Bool.false_and, decide_true, decide_false, Bool.not_true, Bool.not_false]
    · refine g_bipush hC dX7_carbon_20 (pc' := 22) kc_bipush_m2 rfl ?_
      refine g_iretI hC hRt rfl dX7_carbon_22 ?_
      refine ⟨?_, MRc_f ?_ hm, fW.rf⟩
      · simp only [rCarb, okCarb, cl_nI, h4, cs, h17, ↓reduceIte, Bool.false_eq_true, Bool.and_true, Bool.true_and, Bool.and_false, Bool.false_and]
      · simp only [okCarb, cl_nI, h4, cs, h17, ↓reduceIte, Bool.false_eq_true, Bool.and_true, Bool.true_and, Bool.and_false, Bool.false_and, decide_true, decide_false, Bool.not_true, Bool.not_false]
  · refine g_iconst hC dX7_carbon_7 (pc' := 8) kc_iconst_m1 rfl ?_
    refine g_iretI hC hRt rfl dX7_carbon_8 ?_
    refine ⟨?_, MRc_f ?_ hm, fW.rf⟩
    · simp only [rCarb, okCarb, cl_nI, h4, ↓reduceIte, Bool.false_eq_true, Bool.and_true, Bool.true_and, Bool.and_false, Bool.false_and]
    · simp only [okCarb, cl_nI, h4, ↓reduceIte, Bool.false_eq_true, Bool.and_true, Bool.true_and, Bool.and_false, Bool.false_and, decide_true, decide_false, Bool.not_true, Bool.not_false]

set_option maxHeartbeats 4000000 in
set_option maxRecDepth 100000 in
theorem c_tear {l : Launch} {ad : Nat → Nat} {X : gX} {a : Int32} {n : Nat} {h : Nat → Nat → Nat} {b : Bool} {g : Nat → Nat} (hm : MR X g n h b) (hI : Inv g) : K_X7_tear l ad [.ref 201, .int (a)] X (fun rr X' => rr = rTear g a ∧ MRc X' (okTear g a) g (gTear g a) n h b ∧ fW X X') := by
  refine Ct.of [.ref 201, .int (a)] 0 (by decide +kernel) rfl (Nat.le_of_ble_eq_true rfl) (fun F hl hC hRt _ => ?_)
  subst hl
  have b23 : g 2 ≤ g 3 ∧ g 3 ≤ 5 := hI.1.2.2
  refine g_iload_1 hC dX7_tear_0 (pc' := 1) rfl ?_
  refine g_iconst hC dX7_tear_1 (pc' := 2) kc_iconst_0 rfl ?_
  refine g_iconst hC dX7_tear_2 (pc' := 3) kc_iconst_1 rfl ?_
  refine g_callS3R hC (c_in) ml_X7_43 ⟨(Nat.le_of_ble_eq_true rfl), (Nat.le_of_ble_eq_true rfl)⟩ (Nat.le_of_ble_eq_true rfl) dX7_tear_3 (pc' := 6) rfl ⟨Nat.zero_le _, Nat.zero_le _⟩ ?_
  refine g_ifZ_ne hC dX7_tear_6 (pc' := 9) (tgt := 12) (by decide) rfl (fun h6 => ?_) (fun h6 => ?_)
  · obtain ⟨d, rfl, -, hd⟩ := inB_N (by decide) h6 (by decide)
    have cd : cl (nI d) = d := cl_nI (by omega)
    refine g_aload_0 hC dX7_tear_12 (pc' := 13) rfl ?_
    refine g_callV0R hC (c_hasStack hm.1 hI) ml_X7_78 (sh_M ad) rfl ⟨(Nat.le_of_ble_eq_true rfl), (Nat.le_of_ble_eq_true rfl)⟩ (Nat.le_of_ble_eq_true rfl) dX7_tear_13 (pc' := 16) rfl ⟨Nat.zero_le _, Nat.zero_le _⟩ ?_
    refine g_ifZ_ne hC dX7_tear_16 (pc' := 19) (tgt := 22) (by decide) rfl (fun h16 => ?_) (fun h16 => ?_)
    · have h16b := of_decide_eq_true h16
      refine g_aload_0 hC dX7_tear_22 (pc' := 23) rfl ?_
      refine g_callV0V hC (c_record hm hI) ml_X7_47 (sh_M ad) rfl ⟨(Nat.le_of_ble_eq_true rfl), (Nat.le_of_ble_eq_true rfl)⟩ (Nat.le_of_ble_eq_true rfl) dX7_tear_23 (pc' := 26) rfl ⟨Nat.zero_le _, Nat.zero_le _⟩ (fun X23 q23 => ?_)
      obtain ⟨m23, f23⟩ := q23
      refine g_iload_1 hC dX7_tear_26 (pc' := 27) rfl ?_
      refine g_ifN_ne hC dX7_tear_27 (pc' := 30) (tgt := 49) (by decide) rfl (by omega) (fun h27 => ?_) (fun h27 => ?_)
      · refine g_aload_0 hC dX7_tear_49 (pc' := 50) rfl ?_
        refine g_getR hC fl_X7_7 (sh_M ad) rfl dX7_tear_50 (pc' := 53) rfl ?_
        refine g_iconst hC dX7_tear_53 (pc' := 54) kc_iconst_3 rfl ?_
        refine g_dup2 hC dX7_tear_54 (pc' := 55) rfl rfl rfl ?_
        refine g_iald hC (sh_mnow ad) (Nat.le_of_ble_eq_true rfl) (by omega) (m23.1.low) dX7_tear_55 (pc' := 56) rfl ?_
        refine g_iconst hC dX7_tear_56 (pc' := 57) kc_iconst_1 rfl ?_
        refine g_isub hC dX7_tear_57 (pc' := 58) rfl ?_
        refine g_iast hC (sh_mnow ad) (Nat.le_of_ble_eq_true rfl) (by omega) dX7_tear_58 (pc' := 59) rfl ?_
        refine g_aload_0 hC dX7_tear_59 (pc' := 60) rfl ?_
        refine g_getR hC fl_X7_7 (sh_M ad) rfl dX7_tear_60 (pc' := 63) rfl ?_
        refine g_iconst hC dX7_tear_63 (pc' := 64) kc_iconst_3 rfl ?_
        refine g_iald hC (sh_mnow ad) (Nat.le_of_ble_eq_true rfl) (by omega) (gu_at) dX7_tear_64 (pc' := 65) rfl ?_
        refine g_iconst hC dX7_tear_65 (pc' := 66) kc_iconst_1 rfl ?_
        refine g_iadd hC dX7_tear_66 (pc' := 67) rfl ?_
        refine g_iretI hC hRt rfl dX7_tear_67 ?_
        refine ⟨?_, MRc_t ?_ ?_, f23.tr (fW.n gu_ne)⟩
        · simp only [rTear, okTear, cl_nI, lI_decinc, h6, cd, h16, eq_true h16b, eq_false h27, ↓reduceIte, Bool.false_eq_true, Bool.and_true, Bool.true_and]
        · simp only [okTear, cl_nI, lI_decinc, h6, cd, h16, eq_true h16b, eq_false h27, ↓reduceIte, Bool.false_eq_true, Bool.and_true, Bool.true_and, decide_true, decide_false, Bool.not_true, Bool.not_false]
        · unfold gTear
          rw [cd, if_neg h27, lI_dec (by omega)]
          exact m23.n m23.1.updL gu_ne
      · refine g_aload_0 hC dX7_tear_30 (pc' := 31) rfl ?_
        refine g_getR hC fl_X7_7 (sh_M ad) rfl dX7_tear_31 (pc' := 34) rfl ?_
        refine g_iconst hC dX7_tear_34 (pc' := 35) kc_iconst_2 rfl ?_
        refine g_dup2 hC dX7_tear_35 (pc' := 36) rfl rfl rfl ?_
        refine g_iald hC (sh_mnow ad) (Nat.le_of_ble_eq_true rfl) (by omega) (m23.1.at (by decide) (by decide)) dX7_tear_36 (pc' := 37) rfl ?_
        refine g_iconst hC dX7_tear_37 (pc' := 38) kc_iconst_1 rfl ?_
        refine g_iaddN hC dX7_tear_38 (pc' := 39) rfl ?_
        refine g_iast hC (sh_mnow ad) (Nat.le_of_ble_eq_true rfl) (by omega) dX7_tear_39 (pc' := 40) rfl ?_
        refine g_aload_0 hC dX7_tear_40 (pc' := 41) rfl ?_
        refine g_getR hC fl_X7_7 (sh_M ad) rfl dX7_tear_41 (pc' := 44) rfl ?_
        refine g_iconst hC dX7_tear_44 (pc' := 45) kc_iconst_2 rfl ?_
        refine g_iald hC (sh_mnow ad) (Nat.le_of_ble_eq_true rfl) (by omega) (gu_at) dX7_tear_45 (pc' := 46) rfl ?_
        refine g_iconst hC dX7_tear_46 (pc' := 47) kc_iconst_1 rfl ?_
        refine g_isubN hC dX7_tear_47 (pc' := 48) rfl (by omega) ?_
        refine g_iretI hC hRt rfl dX7_tear_48 ?_
        refine ⟨?_, MRc_t ?_ ?_, f23.tr (fW.n gu_ne)⟩
        · simp only [rTear, okTear, cl_nI, h6, cd, h16, eq_true h16b, eq_true h27, ↓reduceIte, Bool.false_eq_true, Bool.and_true, Bool.true_and, Nat.add_sub_cancel]
        · simp only [okTear, cl_nI, h6, cd, h16, eq_true h16b, eq_true h27, ↓reduceIte, Bool.false_eq_true, Bool.and_true, Bool.true_and, decide_true, decide_false, Bool.not_true, Bool.not_false]
        · unfold gTear
          rw [cd, if_pos h27]
          exact m23.n (m23.1.upd (by omega)) gu_ne
    · have h16b : ¬ g 2 < g 3 := of_decide_eq_false h16
      refine g_bipush hC dX7_tear_19 (pc' := 21) kc_bipush_m5 rfl ?_
      refine g_iretI hC hRt rfl dX7_tear_21 ?_
      refine ⟨?_, MRc_f ?_ hm, fW.rf⟩
      · simp only [rTear, okTear, cl_nI, h6, cd, h16, eq_false h16b, ↓reduceIte, Bool.false_eq_true, Bool.and_true, Bool.true_and, Bool.and_false, Bool.false_and]
      · simp only [okTear, cl_nI, h6, cd, h16, eq_false h16b, ↓reduceIte, Bool.false_eq_true, Bool.and_true, Bool.true_and, Bool.and_false, Bool.false_and, decide_true, decide_false, Bool.not_true, Bool.not_false]
  · refine g_bipush hC dX7_tear_9 (pc' := 11) kc_bipush_m2 rfl ?_
    refine g_iretI hC hRt rfl dX7_tear_11 ?_
    refine ⟨?_, MRc_f ?_ hm, fW.rf⟩
    · simp only [rTear, okTear, cl_nI, h6, ↓reduceIte, Bool.false_eq_true, Bool.and_true, Bool.true_and, Bool.and_false, Bool.false_and]
    · simp only [okTear, cl_nI, h6, ↓reduceIte, Bool.false_eq_true, Bool.and_true, Bool.true_and, Bool.and_false, Bool.false_and, decide_true, decide_false, Bool.not_true, Bool.not_false]

set_option maxHeartbeats 4000000 in
set_option maxRecDepth 100000 in
theorem c_write {l : Launch} {ad : Nat → Nat} {X : gX} {a v p : Int32} {n : Nat} {h : Nat → Nat → Nat} {b : Bool} {g : Nat → Nat} (hm : MR X g n h b) (hI : Inv g) : K_X7_write l ad [.ref 201, .int (a), .int (v), .int (p)] X (fun rr X' => rr = rWrt g a v p ∧ MRc X' (okWrt g a v p) g (wrt g (cl a) (cl v) (cl p)) n h b ∧ fW X X') := by
  refine Ct.of [.ref 201, .int (a), .int (v), .int (p), .null] 1 (by decide +kernel) rfl (Nat.le_of_ble_eq_true rfl) (fun F hl hC hRt _ => ?_)
  subst hl
  refine g_aload_0 hC dX7_write_0 (pc' := 1) rfl ?_
  refine g_iload_1 hC dX7_write_1 (pc' := 2) rfl ?_
  refine g_iload_2 hC dX7_write_2 (pc' := 3) rfl ?_
  refine g_iload_3 hC dX7_write_3 (pc' := 4) rfl ?_
  refine g_callV3I hC (c_barOf hm hI) ml_X7_93 (sh_M ad) rfl ⟨(Nat.le_of_ble_eq_true rfl), (Nat.le_of_ble_eq_true rfl)⟩ (Nat.le_of_ble_eq_true rfl) dX7_write_4 (pc' := 7) rfl ⟨Nat.zero_le _, Nat.zero_le _⟩ (fun v4 X4 q4 => ?_)
  obtain ⟨rfl, hX4⟩ := q4
  have m4 := hm.c hX4
  refine g_istore_4 hC dX7_write_7 (pc' := 9) rfl (Nat.le_of_ble_eq_true rfl) rfl ?_
  refine g_iload_4 hC dX7_write_9 (pc' := 11) rfl ?_
  refine g_if_ge hC dX7_write_11 (pc' := 14) (tgt := 17) (by decide) rfl (fun h11 => ?_) (fun h11 => ?_)
  · have hok : okWrt g a v p = true := by
      cases hz : okWrt g a v p with
      | true => rfl
      | false => exact absurd h11 (Int32.not_le.mpr (bar_neg hz))
    obtain ⟨f, w, q, rfl, rfl, rfl, hf, hw, hq1, hq, hst, hfl, -⟩ := okWrt_iff hok
    refine g_aload_0 hC dX7_write_17 (pc' := 18) rfl ?_
    refine g_callV0V hC (c_record m4 hI) ml_X7_47 (sh_M ad) rfl ⟨(Nat.le_of_ble_eq_true rfl), (Nat.le_of_ble_eq_true rfl)⟩ (Nat.le_of_ble_eq_true rfl) dX7_write_18 (pc' := 21) rfl ⟨Nat.zero_le _, Nat.zero_le _⟩ (fun X18 q18 => ?_)
    obtain ⟨m18, f18⟩ := q18
    refine g_aload_0 hC dX7_write_21 (pc' := 22) rfl ?_
    refine g_iload_1 hC dX7_write_22 (pc' := 23) rfl ?_
    refine g_iload_2 hC dX7_write_23 (pc' := 24) rfl ?_
    refine g_iload_3 hC dX7_write_24 (pc' := 25) rfl ?_
    refine g_callV3I hC (c_writeNow (f := f) (v := w) (p := q) (by omega) hw ⟨hq1, hq⟩ hst hfl m18 hI) ml_X7_96 (sh_M ad) rfl ⟨(Nat.le_of_ble_eq_true rfl), (Nat.le_of_ble_eq_true rfl)⟩ (Nat.le_of_ble_eq_true rfl) dX7_write_25 (pc' := 28) rfl ⟨Nat.zero_le _, Nat.zero_le _⟩ (fun v25 X25 q25 => ?_)
    obtain ⟨rfl, m25, f25⟩ := q25
    refine g_iretI hC hRt rfl dX7_write_28 ?_
    exact ⟨by simp only [rWrt, hok, ↓reduceIte, cl_nI (show q < 1073741824 by omega)], MRc_t hok (by rw [cl_nI (by omega), cl_nI (by omega), cl_nI (by omega)]; exact m25), ((fW.c hX4).tr f18).tr (fN.w f25)⟩
  · have hok : okWrt g a v p = false := by
      cases hz : okWrt g a v p with
      | false => rfl
      | true =>
        obtain ⟨f, w, q, -, -, -, -, -, -, -, -, -, e⟩ := okWrt_iff hz
        rw [e] at h11
        exact absurd (by decide) h11
    refine g_iload_4 hC dX7_write_14 (pc' := 16) rfl ?_
    refine g_iretI hC hRt rfl dX7_write_16 ?_
    exact ⟨by simp only [rWrt, hok, Bool.false_eq_true, ↓reduceIte], MRc_f hok m4, fW.c hX4⟩

set_option maxHeartbeats 4000000 in
set_option maxRecDepth 100000 in
theorem c_strike {l : Launch} {ad : Nat → Nat} {X : gX} {a p : Int32} {n : Nat} {h : Nat → Nat → Nat} {b : Bool} {g : Nat → Nat} (hm : MR X g n h b) (hI : Inv g) : K_X7_strike l ad [.ref 201, .int (a), .int (p)] X (fun rr X' => rr = rStr g a p ∧ MRc X' (okStr g a p) g (str g (cl a) (cl p)) n h b ∧ fW X X') := by
  refine Ct.of [.ref 201, .int (a), .int (p)] 0 (by decide +kernel) rfl (Nat.le_of_ble_eq_true rfl) (fun F hl hC hRt _ => ?_)
  subst hl
  refine g_iload_1 hC dX7_strike_0 (pc' := 1) rfl ?_
  refine g_callS1R hC (c_isField) ml_X7_75 ⟨(Nat.le_of_ble_eq_true rfl), (Nat.le_of_ble_eq_true rfl)⟩ (Nat.le_of_ble_eq_true rfl) dX7_strike_1 (pc' := 4) rfl ⟨Nat.zero_le _, Nat.zero_le _⟩ ?_
  refine g_ifZ_ne hC dX7_strike_4 (pc' := 7) (tgt := 9) (by decide) rfl (fun h4 => ?_) (fun h4 => ?_)
  · obtain ⟨f, rfl, -, hf⟩ := inB_N (by decide) h4 (by decide)
    have cf : cl (nI f) = f := cl_nI (by omega)
    refine g_iload_2 hC dX7_strike_9 (pc' := 10) rfl ?_
    refine g_iconst hC dX7_strike_10 (pc' := 11) kc_iconst_1 rfl ?_
    refine g_bipush hC dX7_strike_11 (pc' := 13) kc_bipush_9 rfl ?_
    refine g_callS3R hC (c_in) ml_X7_43 ⟨(Nat.le_of_ble_eq_true rfl), (Nat.le_of_ble_eq_true rfl)⟩ (Nat.le_of_ble_eq_true rfl) dX7_strike_13 (pc' := 16) rfl ⟨Nat.zero_le _, Nat.zero_le _⟩ ?_
    refine g_ifZ_ne hC dX7_strike_16 (pc' := 19) (tgt := 22) (by decide) rfl (fun h16 => ?_) (fun h16 => ?_)
    · obtain ⟨q, rfl, hq1, hq⟩ := inB_N (by decide) h16 (by decide)
      have cq : cl (nI q) = q := cl_nI (by omega)
      refine g_aload_0 hC dX7_strike_22 (pc' := 23) rfl ?_
      refine g_callV0R hC (c_hasStack hm.1 hI) ml_X7_78 (sh_M ad) rfl ⟨(Nat.le_of_ble_eq_true rfl), (Nat.le_of_ble_eq_true rfl)⟩ (Nat.le_of_ble_eq_true rfl) dX7_strike_23 (pc' := 26) rfl ⟨Nat.zero_le _, Nat.zero_le _⟩ ?_
      refine g_ifZ_ne hC dX7_strike_26 (pc' := 29) (tgt := 32) (by decide) rfl (fun h26 => ?_) (fun h26 => ?_)
      · have h26b := of_decide_eq_true h26
        refine g_aload_0 hC dX7_strike_32 (pc' := 33) rfl ?_
        refine g_callV0V hC (c_record hm hI) ml_X7_47 (sh_M ad) rfl ⟨(Nat.le_of_ble_eq_true rfl), (Nat.le_of_ble_eq_true rfl)⟩ (Nat.le_of_ble_eq_true rfl) dX7_strike_33 (pc' := 36) rfl ⟨Nat.zero_le _, Nat.zero_le _⟩ (fun X33 q33 => ?_)
        obtain ⟨m33, f33⟩ := q33
        refine g_aload_0 hC dX7_strike_36 (pc' := 37) rfl ?_
        refine g_iload_1 hC dX7_strike_37 (pc' := 38) rfl ?_
        refine g_iload_2 hC dX7_strike_38 (pc' := 39) rfl ?_
        refine g_callV2I hC (c_strikeNow (f := f) (p := q) (by omega) ⟨hq1, hq⟩ h26b m33 hI) ml_X7_102 (sh_M ad) rfl ⟨(Nat.le_of_ble_eq_true rfl), (Nat.le_of_ble_eq_true rfl)⟩ (Nat.le_of_ble_eq_true rfl) dX7_strike_39 (pc' := 42) rfl ⟨Nat.zero_le _, Nat.zero_le _⟩ (fun v39 X39 q39 => ?_)
        obtain ⟨rfl, m39, f39⟩ := q39
        refine g_iretI hC hRt rfl dX7_strike_42 ?_
        refine ⟨?_, MRc_t ?_ ?_, f33.tr (fN.w f39)⟩
        · simp only [rStr, okStr, cl_nI, h4, cf, h16, cq, h26, eq_true h26b, ↓reduceIte, Bool.false_eq_true, Bool.and_true, Bool.true_and]
        · simp only [okStr, cl_nI, h4, cf, h16, cq, h26, eq_true h26b, ↓reduceIte, Bool.false_eq_true, Bool.and_true, Bool.true_and, decide_true, decide_false, Bool.not_true, Bool.not_false]
        · rw [cf, cq]
          exact m39
      · have h26b : ¬ g 2 < g 3 := of_decide_eq_false h26
        refine g_bipush hC dX7_strike_29 (pc' := 31) kc_bipush_m5 rfl ?_
        refine g_iretI hC hRt rfl dX7_strike_31 ?_
        refine ⟨?_, MRc_f ?_ hm, fW.rf⟩
        · simp only [rStr, okStr, cl_nI, h4, cf, h16, cq, h26, eq_false h26b, ↓reduceIte, Bool.false_eq_true, Bool.and_true, Bool.true_and, Bool.and_false, Bool.false_and]
        · simp only [okStr, cl_nI, h4, cf, h16, cq, h26, eq_false h26b, ↓reduceIte, Bool.false_eq_true, Bool.and_true, Bool.true_and, Bool.and_false, Bool.false_and, decide_true, decide_false, Bool.not_true, Bool.not_false]
    · refine g_bipush hC dX7_strike_19 (pc' := 21) kc_bipush_m2 rfl ?_
      refine g_iretI hC hRt rfl dX7_strike_21 ?_
      refine ⟨?_, MRc_f ?_ hm, fW.rf⟩
      · simp only [rStr, okStr, cl_nI, h4, cf, h16, ↓reduceIte, Bool.false_eq_true, Bool.and_true, Bool.true_and, Bool.and_false, Bool.false_and]
      · simp only [okStr, cl_nI, h4, cf, h16, ↓reduceIte, Bool.false_eq_true, Bool.and_true, Bool.true_and, Bool.and_false, Bool.false_and, decide_true, decide_false, Bool.not_true, Bool.not_false]
  · refine g_iconst hC dX7_strike_7 (pc' := 8) kc_iconst_m1 rfl ?_
    refine g_iretI hC hRt rfl dX7_strike_8 ?_
    refine ⟨?_, MRc_f ?_ hm, fW.rf⟩
    · simp only [rStr, okStr, cl_nI, h4, ↓reduceIte, Bool.false_eq_true, Bool.and_true, Bool.true_and, Bool.and_false, Bool.false_and]
    · simp only [okStr, cl_nI, h4, ↓reduceIte, Bool.false_eq_true, Bool.and_true, Bool.true_and, Bool.and_false, Bool.false_and, decide_true, decide_false, Bool.not_true, Bool.not_false]

set_option maxHeartbeats 4000000 in
set_option maxRecDepth 100000 in
theorem c_paint {l : Launch} {ad : Nat → Nat} {X : gX} {a c : Int32} {n : Nat} {h : Nat → Nat → Nat} {b : Bool} {g : Nat → Nat} (hm : MR X g n h b) (hI : Inv g) : K_X7_paint l ad [.ref 201, .int (a), .int (c)] X (fun rr X' => rr = rPaint g a c ∧ MRc X' (okPaint g a c) g (gPaint g a c) n h b ∧ fW X X') := by
  refine Ct.of [.ref 201, .int (a), .int (c)] 0 (by decide +kernel) rfl (Nat.le_of_ble_eq_true rfl) (fun F hl hC hRt _ => ?_)
  subst hl
  have b23 : g 2 ≤ g 3 ∧ g 3 ≤ 5 := hI.1.2.2
  refine g_iload_1 hC dX7_paint_0 (pc' := 1) rfl ?_
  refine g_callS1R hC (c_isSheet) ml_X7_50 ⟨(Nat.le_of_ble_eq_true rfl), (Nat.le_of_ble_eq_true rfl)⟩ (Nat.le_of_ble_eq_true rfl) dX7_paint_1 (pc' := 4) rfl ⟨Nat.zero_le _, Nat.zero_le _⟩ ?_
  refine g_ifZ_eq hC dX7_paint_4 (pc' := 7) (tgt := 14) (by decide) rfl (fun h4 => ?_) (fun h4 => ?_)
  · refine g_iconst hC dX7_paint_14 (pc' := 15) kc_iconst_m1 rfl ?_
    refine g_iretI hC hRt rfl dX7_paint_15 ?_
    refine ⟨?_, MRc_f ?_ hm, fW.rf⟩
    · simp only [rPaint, okPaint, cl_nI, shut, h4, decide_true, decide_false, Bool.not_true, Bool.not_false, ↓reduceIte, Bool.false_eq_true, Bool.and_true, Bool.true_and, Bool.and_false, Bool.false_and]
    · simp only [okPaint, cl_nI, shut, h4, decide_true, decide_false, Bool.not_true, Bool.not_false, ↓reduceIte, Bool.false_eq_true, Bool.and_true, Bool.true_and, Bool.and_false, Bool.false_and, decide_true, decide_false, Bool.not_true, Bool.not_false]
  · obtain ⟨s, rfl, -, hs⟩ := inB_N (by decide) h4 (by decide)
    have cs : cl (nI s) = s := cl_nI (by omega)
    refine g_iload_2 hC dX7_paint_7 (pc' := 8) rfl ?_
    refine g_callS1R hC (c_isField) ml_X7_75 ⟨(Nat.le_of_ble_eq_true rfl), (Nat.le_of_ble_eq_true rfl)⟩ (Nat.le_of_ble_eq_true rfl) dX7_paint_8 (pc' := 11) rfl ⟨Nat.zero_le _, Nat.zero_le _⟩ ?_
    refine g_ifZ_ne hC dX7_paint_11 (pc' := 14) (tgt := 16) (by decide) rfl (fun h11 => ?_) (fun h11 => ?_)
    · obtain ⟨f, rfl, -, hf⟩ := inB_N (by decide) h11 (by decide)
      have cf : cl (nI f) = f := cl_nI (by omega)
      refine g_aload_0 hC dX7_paint_16 (pc' := 17) rfl ?_
      refine g_iload_1 hC dX7_paint_17 (pc' := 18) rfl ?_
      refine g_callV1R hC (c_isInStack (s := s) (by omega) hm.1 hI) ml_X7_54 (sh_M ad) rfl ⟨(Nat.le_of_ble_eq_true rfl), (Nat.le_of_ble_eq_true rfl)⟩ (Nat.le_of_ble_eq_true rfl) dX7_paint_18 (pc' := 21) rfl ⟨Nat.zero_le _, Nat.zero_le _⟩ ?_
      refine g_ifZ_eq hC dX7_paint_21 (pc' := 24) (tgt := 37) (by decide) rfl (fun h21 => ?_) (fun h21 => ?_)
      · refine g_aload_0 hC dX7_paint_37 (pc' := 38) rfl ?_
        refine g_callV0V hC (c_record hm hI) ml_X7_47 (sh_M ad) rfl ⟨(Nat.le_of_ble_eq_true rfl), (Nat.le_of_ble_eq_true rfl)⟩ (Nat.le_of_ble_eq_true rfl) dX7_paint_38 (pc' := 41) rfl ⟨Nat.zero_le _, Nat.zero_le _⟩ (fun X38 q38 => ?_)
        obtain ⟨m38, f38⟩ := q38
        refine g_aload_0 hC dX7_paint_41 (pc' := 42) rfl ?_
        refine g_getR hC fl_X7_7 (sh_M ad) rfl dX7_paint_42 (pc' := 45) rfl ?_
        refine g_bipush hC dX7_paint_45 (pc' := 47) kc_bipush_14 rfl ?_
        refine g_iload_1 hC dX7_paint_47 (pc' := 48) rfl ?_
        refine g_iaddN hC dX7_paint_48 (pc' := 49) rfl ?_
        refine g_dup2 hC dX7_paint_49 (pc' := 50) rfl rfl rfl ?_
        refine g_iald hC (sh_mnow ad) (Nat.le_of_ble_eq_true rfl) (by omega) (m38.1.at (by omega) (by omega)) dX7_paint_50 (pc' := 51) rfl ?_
        refine g_aload_0 hC dX7_paint_51 (pc' := 52) rfl ?_
        refine g_iload_1 hC dX7_paint_52 (pc' := 53) rfl ?_
        refine g_callV1R hC (c_isInStack (s := s) (by omega) m38.1 hI) ml_X7_54 (sh_M ad) rfl ⟨(Nat.le_of_ble_eq_true rfl), (Nat.le_of_ble_eq_true rfl)⟩ (Nat.le_of_ble_eq_true rfl) dX7_paint_53 (pc' := 56) rfl ⟨Nat.zero_le _, Nat.zero_le _⟩ ?_
        refine g_ifZ_eq hC dX7_paint_56 (pc' := 59) (tgt := 63) (by decide) rfl (fun h56 => ?_) (fun h56 => ?_)
        · refine g_iconst hC dX7_paint_63 (pc' := 64) kc_iconst_1 rfl ?_
          refine g_iload_2 hC dX7_paint_64 (pc' := 65) rfl ?_
          refine g_ishl1 hC dX7_paint_65 (pc' := 66) rfl (by omega) ?_
          refine g_iorN hC dX7_paint_66 (pc' := 67) rfl ?_
          refine g_iast hC (sh_mnow ad) (Nat.le_of_ble_eq_true rfl) (by omega) dX7_paint_67 (pc' := 68) rfl ?_
          have hRa : RM (gu X38 202 (14 + s) ((nI ((g (14 + s)) ||| (2 ^ f))))) (apt g s f (inS g s)) := (m38.1.upd (i := 14 + s) (by omega)).congr (fun j _ => by unfold apt; rw [h56, if_neg (by decide)])
          refine g_aload_0 hC dX7_paint_68 (pc' := 69) rfl ?_
          refine g_iload_1 hC dX7_paint_69 (pc' := 70) rfl ?_
          refine g_iload_2 hC dX7_paint_70 (pc' := 71) rfl ?_
          refine g_bipush hC dX7_paint_71 (pc' := 73) kc_bipush_9 rfl ?_
          refine g_callV3I hC (c_strikeAt (s := s) (f := f) (q := 9) (g := apt g s f (inS g s)) (by omega) (by omega) (by decide) hRa (Inv_apt hI (by omega) (by omega))) ml_X7_99 (sh_M ad) rfl ⟨(Nat.le_of_ble_eq_true rfl), (Nat.le_of_ble_eq_true rfl)⟩ (Nat.le_of_ble_eq_true rfl) dX7_paint_73 (pc' := 76) rfl ⟨Nat.zero_le _, Nat.zero_le _⟩ (fun v73 X73 q73 => ?_)
          obtain ⟨rfl, r73, e73⟩ := q73
          rw [apt_stt (by omega) (by omega)]
          refine g_iretI hC hRt rfl dX7_paint_76 ?_
          refine ⟨?_, MRc_t ?_ ?_, f38.tr ((fW.n gu_ne).tr (fW.n e73))⟩
          · simp only [rPaint, okPaint, cl_nI, shut, h4, cs, h11, cf, h21, h56, decide_true, decide_false, Bool.not_true, Bool.not_false, Bool.and_false, Bool.false_and, ↓reduceIte, Bool.false_eq_true, Bool.and_true, Bool.true_and]
          · simp only [okPaint, cl_nI, shut, h4, cs, h11, cf, h21, h56, decide_true, decide_false, Bool.not_true, Bool.not_false, Bool.and_false, Bool.false_and, ↓reduceIte, Bool.false_eq_true, Bool.and_true, Bool.true_and, decide_true, decide_false, Bool.not_true, Bool.not_false]
          · rw [gPaint, cs, cf]
            exact (m38.n hRa gu_ne).n r73 e73
        · refine g_iconst hC dX7_paint_59 (pc' := 60) kc_iconst_0 rfl ?_
          refine g_goto hC dX7_paint_60 (tgt := 66) (by decide) ?_
          refine g_iorN hC dX7_paint_66 (pc' := 67) rfl ?_
          refine g_iast hC (sh_mnow ad) (Nat.le_of_ble_eq_true rfl) (by omega) dX7_paint_67 (pc' := 68) rfl ?_
          have hRa : RM (gu X38 202 (14 + s) ((nI ((g (14 + s)) ||| 0)))) (apt g s f (inS g s)) := (m38.1.upd (i := 14 + s) (by omega)).congr (fun j _ => by unfold apt; rw [h56, if_pos rfl])
          refine g_aload_0 hC dX7_paint_68 (pc' := 69) rfl ?_
          refine g_iload_1 hC dX7_paint_69 (pc' := 70) rfl ?_
          refine g_iload_2 hC dX7_paint_70 (pc' := 71) rfl ?_
          refine g_bipush hC dX7_paint_71 (pc' := 73) kc_bipush_9 rfl ?_
          refine g_callV3I hC (c_strikeAt (s := s) (f := f) (q := 9) (g := apt g s f (inS g s)) (by omega) (by omega) (by decide) hRa (Inv_apt hI (by omega) (by omega))) ml_X7_99 (sh_M ad) rfl ⟨(Nat.le_of_ble_eq_true rfl), (Nat.le_of_ble_eq_true rfl)⟩ (Nat.le_of_ble_eq_true rfl) dX7_paint_73 (pc' := 76) rfl ⟨Nat.zero_le _, Nat.zero_le _⟩ (fun v73 X73 q73 => ?_)
          obtain ⟨rfl, r73, e73⟩ := q73
          rw [apt_stt (by omega) (by omega)]
          refine g_iretI hC hRt rfl dX7_paint_76 ?_
          refine ⟨?_, MRc_t ?_ ?_, f38.tr ((fW.n gu_ne).tr (fW.n e73))⟩
          · simp only [rPaint, okPaint, cl_nI, shut, h4, cs, h11, cf, h21, h56, decide_true, decide_false, Bool.not_true, Bool.not_false, Bool.and_false, Bool.false_and, ↓reduceIte, Bool.false_eq_true, Bool.and_true, Bool.true_and]
          · simp only [okPaint, cl_nI, shut, h4, cs, h11, cf, h21, h56, decide_true, decide_false, Bool.not_true, Bool.not_false, Bool.and_false, Bool.false_and, ↓reduceIte, Bool.false_eq_true, Bool.and_true, Bool.true_and, decide_true, decide_false, Bool.not_true, Bool.not_false]
          · rw [gPaint, cs, cf]
            exact (m38.n hRa gu_ne).n r73 e73
      · refine g_iload_1 hC dX7_paint_24 (pc' := 25) rfl ?_
        refine g_aload_0 hC dX7_paint_25 (pc' := 26) rfl ?_
        refine g_getR hC fl_X7_7 (sh_M ad) rfl dX7_paint_26 (pc' := 29) rfl ?_
        refine g_iconst hC dX7_paint_29 (pc' := 30) kc_iconst_2 rfl ?_
        refine g_iald hC (sh_mnow ad) (Nat.le_of_ble_eq_true rfl) (by omega) (hm.1.at (by decide) (by decide)) dX7_paint_30 (pc' := 31) rfl ?_
        refine g_icmpN_eq hC dX7_paint_31 (pc' := 34) (tgt := 37) (by decide) rfl (by omega) (by omega) (fun h31 => ?_) (fun h31 => ?_)
        · refine g_aload_0 hC dX7_paint_37 (pc' := 38) rfl ?_
          refine g_callV0V hC (c_record hm hI) ml_X7_47 (sh_M ad) rfl ⟨(Nat.le_of_ble_eq_true rfl), (Nat.le_of_ble_eq_true rfl)⟩ (Nat.le_of_ble_eq_true rfl) dX7_paint_38 (pc' := 41) rfl ⟨Nat.zero_le _, Nat.zero_le _⟩ (fun X38 q38 => ?_)
          obtain ⟨m38, f38⟩ := q38
          refine g_aload_0 hC dX7_paint_41 (pc' := 42) rfl ?_
          refine g_getR hC fl_X7_7 (sh_M ad) rfl dX7_paint_42 (pc' := 45) rfl ?_
          refine g_bipush hC dX7_paint_45 (pc' := 47) kc_bipush_14 rfl ?_
          refine g_iload_1 hC dX7_paint_47 (pc' := 48) rfl ?_
          refine g_iaddN hC dX7_paint_48 (pc' := 49) rfl ?_
          refine g_dup2 hC dX7_paint_49 (pc' := 50) rfl rfl rfl ?_
          refine g_iald hC (sh_mnow ad) (Nat.le_of_ble_eq_true rfl) (by omega) (m38.1.at (by omega) (by omega)) dX7_paint_50 (pc' := 51) rfl ?_
          refine g_aload_0 hC dX7_paint_51 (pc' := 52) rfl ?_
          refine g_iload_1 hC dX7_paint_52 (pc' := 53) rfl ?_
          refine g_callV1R hC (c_isInStack (s := s) (by omega) m38.1 hI) ml_X7_54 (sh_M ad) rfl ⟨(Nat.le_of_ble_eq_true rfl), (Nat.le_of_ble_eq_true rfl)⟩ (Nat.le_of_ble_eq_true rfl) dX7_paint_53 (pc' := 56) rfl ⟨Nat.zero_le _, Nat.zero_le _⟩ ?_
          refine g_ifZ_eq hC dX7_paint_56 (pc' := 59) (tgt := 63) (by decide) rfl (fun h56 => ?_) (fun h56 => ?_)
          · refine g_iconst hC dX7_paint_63 (pc' := 64) kc_iconst_1 rfl ?_
            refine g_iload_2 hC dX7_paint_64 (pc' := 65) rfl ?_
            refine g_ishl1 hC dX7_paint_65 (pc' := 66) rfl (by omega) ?_
            refine g_iorN hC dX7_paint_66 (pc' := 67) rfl ?_
            refine g_iast hC (sh_mnow ad) (Nat.le_of_ble_eq_true rfl) (by omega) dX7_paint_67 (pc' := 68) rfl ?_
            have hRa : RM (gu X38 202 (14 + s) ((nI ((g (14 + s)) ||| (2 ^ f))))) (apt g s f (inS g s)) := (m38.1.upd (i := 14 + s) (by omega)).congr (fun j _ => by unfold apt; rw [h56, if_neg (by decide)])
            refine g_aload_0 hC dX7_paint_68 (pc' := 69) rfl ?_
            refine g_iload_1 hC dX7_paint_69 (pc' := 70) rfl ?_
            refine g_iload_2 hC dX7_paint_70 (pc' := 71) rfl ?_
            refine g_bipush hC dX7_paint_71 (pc' := 73) kc_bipush_9 rfl ?_
            refine g_callV3I hC (c_strikeAt (s := s) (f := f) (q := 9) (g := apt g s f (inS g s)) (by omega) (by omega) (by decide) hRa (Inv_apt hI (by omega) (by omega))) ml_X7_99 (sh_M ad) rfl ⟨(Nat.le_of_ble_eq_true rfl), (Nat.le_of_ble_eq_true rfl)⟩ (Nat.le_of_ble_eq_true rfl) dX7_paint_73 (pc' := 76) rfl ⟨Nat.zero_le _, Nat.zero_le _⟩ (fun v73 X73 q73 => ?_)
            obtain ⟨rfl, r73, e73⟩ := q73
            rw [apt_stt (by omega) (by omega)]
            refine g_iretI hC hRt rfl dX7_paint_76 ?_
            refine ⟨?_, MRc_t ?_ ?_, f38.tr ((fW.n gu_ne).tr (fW.n e73))⟩
            · simp only [rPaint, okPaint, cl_nI, shut, h4, cs, h11, cf, h21, eq_true h31, h56, decide_true, decide_false, Bool.not_true, Bool.not_false, Bool.and_false, Bool.false_and, ↓reduceIte, Bool.false_eq_true, Bool.and_true, Bool.true_and]
            · simp only [okPaint, cl_nI, shut, h4, cs, h11, cf, h21, eq_true h31, h56, decide_true, decide_false, Bool.not_true, Bool.not_false, Bool.and_false, Bool.false_and, ↓reduceIte, Bool.false_eq_true, Bool.and_true, Bool.true_and, decide_true, decide_false, Bool.not_true, Bool.not_false]
            · rw [gPaint, cs, cf]
              exact (m38.n hRa gu_ne).n r73 e73
          · refine g_iconst hC dX7_paint_59 (pc' := 60) kc_iconst_0 rfl ?_
            refine g_goto hC dX7_paint_60 (tgt := 66) (by decide) ?_
            refine g_iorN hC dX7_paint_66 (pc' := 67) rfl ?_
            refine g_iast hC (sh_mnow ad) (Nat.le_of_ble_eq_true rfl) (by omega) dX7_paint_67 (pc' := 68) rfl ?_
            have hRa : RM (gu X38 202 (14 + s) ((nI ((g (14 + s)) ||| 0)))) (apt g s f (inS g s)) := (m38.1.upd (i := 14 + s) (by omega)).congr (fun j _ => by unfold apt; rw [h56, if_pos rfl])
            refine g_aload_0 hC dX7_paint_68 (pc' := 69) rfl ?_
            refine g_iload_1 hC dX7_paint_69 (pc' := 70) rfl ?_
            refine g_iload_2 hC dX7_paint_70 (pc' := 71) rfl ?_
            refine g_bipush hC dX7_paint_71 (pc' := 73) kc_bipush_9 rfl ?_
            refine g_callV3I hC (c_strikeAt (s := s) (f := f) (q := 9) (g := apt g s f (inS g s)) (by omega) (by omega) (by decide) hRa (Inv_apt hI (by omega) (by omega))) ml_X7_99 (sh_M ad) rfl ⟨(Nat.le_of_ble_eq_true rfl), (Nat.le_of_ble_eq_true rfl)⟩ (Nat.le_of_ble_eq_true rfl) dX7_paint_73 (pc' := 76) rfl ⟨Nat.zero_le _, Nat.zero_le _⟩ (fun v73 X73 q73 => ?_)
            obtain ⟨rfl, r73, e73⟩ := q73
            rw [apt_stt (by omega) (by omega)]
            refine g_iretI hC hRt rfl dX7_paint_76 ?_
            refine ⟨?_, MRc_t ?_ ?_, f38.tr ((fW.n gu_ne).tr (fW.n e73))⟩
            · simp only [rPaint, okPaint, cl_nI, shut, h4, cs, h11, cf, h21, eq_true h31, h56, decide_true, decide_false, Bool.not_true, Bool.not_false, Bool.and_false, Bool.false_and, ↓reduceIte, Bool.false_eq_true, Bool.and_true, Bool.true_and]
            · simp only [okPaint, cl_nI, shut, h4, cs, h11, cf, h21, eq_true h31, h56, decide_true, decide_false, Bool.not_true, Bool.not_false, Bool.and_false, Bool.false_and, ↓reduceIte, Bool.false_eq_true, Bool.and_true, Bool.true_and, decide_true, decide_false, Bool.not_true, Bool.not_false]
            · rw [gPaint, cs, cf]
              exact (m38.n hRa gu_ne).n r73 e73
        · refine g_bipush hC dX7_paint_34 (pc' := 36) kc_bipush_m5 rfl ?_
          refine g_iretI hC hRt rfl dX7_paint_36 ?_
          refine ⟨?_, MRc_f ?_ hm, fW.rf⟩
          · simp only [rPaint, okPaint, cl_nI, shut, h4, cs, h11, cf, h21, eq_false h31, decide_true, decide_false, Bool.not_true, Bool.not_false, ↓reduceIte, Bool.false_eq_true, Bool.and_true, Bool.true_and, Bool.and_false, Bool.false_and]
          · simp only [okPaint, cl_nI, shut, h4, cs, h11, cf, h21, eq_false h31, decide_true, decide_false, Bool.not_true, Bool.not_false, ↓reduceIte, Bool.false_eq_true, Bool.and_true, Bool.true_and, Bool.and_false, Bool.false_and, decide_true, decide_false, Bool.not_true, Bool.not_false]
    · refine g_iconst hC dX7_paint_14 (pc' := 15) kc_iconst_m1 rfl ?_
      refine g_iretI hC hRt rfl dX7_paint_15 ?_
      refine ⟨?_, MRc_f ?_ hm, fW.rf⟩
      · simp only [rPaint, okPaint, cl_nI, shut, h4, cs, h11, decide_true, decide_false, Bool.not_true, Bool.not_false, ↓reduceIte, Bool.false_eq_true, Bool.and_true, Bool.true_and, Bool.and_false, Bool.false_and]
      · simp only [okPaint, cl_nI, shut, h4, cs, h11, decide_true, decide_false, Bool.not_true, Bool.not_false, ↓reduceIte, Bool.false_eq_true, Bool.and_true, Bool.true_and, Bool.and_false, Bool.false_and, decide_true, decide_false, Bool.not_true, Bool.not_false]

set_option maxHeartbeats 4000000 in
set_option maxRecDepth 100000 in
theorem c_amend {l : Launch} {ad : Nat → Nat} {X : gX} {a c v p : Int32} {n : Nat} {h : Nat → Nat → Nat} {b : Bool} {g : Nat → Nat} (hm : MR X g n h b) (hI : Inv g) : K_X7_amend l ad [.ref 201, .int (a), .int (c), .int (v), .int (p)] X (fun rr X' => rr = rAmend g a c v p ∧ MRc X' (okAmend g a c v p) g (gAmend g a c v p) n h b ∧ fW X X') := by
  refine Ct.of [.ref 201, .int (a), .int (c), .int (v), .int (p)] 0 (by decide +kernel) rfl (Nat.le_of_ble_eq_true rfl) (fun F hl hC hRt _ => ?_)
  subst hl
  have b23 : g 2 ≤ g 3 ∧ g 3 ≤ 5 := hI.1.2.2
  refine g_iload_1 hC dX7_amend_0 (pc' := 1) rfl ?_
  refine g_callS1R hC (c_isSheet) ml_X7_50 ⟨(Nat.le_of_ble_eq_true rfl), (Nat.le_of_ble_eq_true rfl)⟩ (Nat.le_of_ble_eq_true rfl) dX7_amend_1 (pc' := 4) rfl ⟨Nat.zero_le _, Nat.zero_le _⟩ ?_
  refine g_ifZ_eq hC dX7_amend_4 (pc' := 7) (tgt := 14) (by decide) rfl (fun h4 => ?_) (fun h4 => ?_)
  · refine g_iconst hC dX7_amend_14 (pc' := 15) kc_iconst_m1 rfl ?_
    refine g_iretI hC hRt rfl dX7_amend_15 ?_
    refine ⟨?_, MRc_f ?_ hm, fW.rf⟩
    · simp only [rAmend, okAmend, cl_nI, h4, decide_true, decide_false, Bool.not_true, Bool.not_false, ↓reduceIte, Bool.false_eq_true, Bool.and_true, Bool.true_and, Bool.and_false, Bool.false_and]
    · simp only [okAmend, cl_nI, h4, decide_true, decide_false, Bool.not_true, Bool.not_false, ↓reduceIte, Bool.false_eq_true, Bool.and_true, Bool.true_and, Bool.and_false, Bool.false_and, decide_true, decide_false, Bool.not_true, Bool.not_false]
  · obtain ⟨s, rfl, -, hs⟩ := inB_N (by decide) h4 (by decide)
    have cs : cl (nI s) = s := cl_nI (by omega)
    refine g_iload_2 hC dX7_amend_7 (pc' := 8) rfl ?_
    refine g_callS1R hC (c_isField) ml_X7_75 ⟨(Nat.le_of_ble_eq_true rfl), (Nat.le_of_ble_eq_true rfl)⟩ (Nat.le_of_ble_eq_true rfl) dX7_amend_8 (pc' := 11) rfl ⟨Nat.zero_le _, Nat.zero_le _⟩ ?_
    refine g_ifZ_ne hC dX7_amend_11 (pc' := 14) (tgt := 16) (by decide) rfl (fun h11 => ?_) (fun h11 => ?_)
    · obtain ⟨f, rfl, -, hf⟩ := inB_N (by decide) h11 (by decide)
      have cf : cl (nI f) = f := cl_nI (by omega)
      have bc := hI.c (show s < 5 by omega) (show f < 10 by omega)
      refine g_iload_3 hC dX7_amend_16 (pc' := 17) rfl ?_
      refine g_iconst hC dX7_amend_17 (pc' := 18) kc_iconst_0 rfl ?_
      refine g_sipush hC dX7_amend_18 (pc' := 21) kc_sipush_999 rfl ?_
      refine g_callS3R hC (c_in) ml_X7_43 ⟨(Nat.le_of_ble_eq_true rfl), (Nat.le_of_ble_eq_true rfl)⟩ (Nat.le_of_ble_eq_true rfl) dX7_amend_21 (pc' := 24) rfl ⟨Nat.zero_le _, Nat.zero_le _⟩ ?_
      refine g_ifZ_eq hC dX7_amend_24 (pc' := 27) (tgt := 38) (by decide) rfl (fun h24 => ?_) (fun h24 => ?_)
      · refine g_bipush hC dX7_amend_38 (pc' := 40) kc_bipush_m2 rfl ?_
        refine g_iretI hC hRt rfl dX7_amend_40 ?_
        refine ⟨?_, MRc_f ?_ hm, fW.rf⟩
        · simp only [rAmend, okAmend, cl_nI, h4, cs, h11, cf, h24, decide_true, decide_false, Bool.not_true, Bool.not_false, ↓reduceIte, Bool.false_eq_true, Bool.and_true, Bool.true_and, Bool.and_false, Bool.false_and]
        · simp only [okAmend, cl_nI, h4, cs, h11, cf, h24, decide_true, decide_false, Bool.not_true, Bool.not_false, ↓reduceIte, Bool.false_eq_true, Bool.and_true, Bool.true_and, Bool.and_false, Bool.false_and, decide_true, decide_false, Bool.not_true, Bool.not_false]
      · obtain ⟨w, rfl, -, hw⟩ := inB_N (by decide) h24 (by decide)
        have cw : cl (nI w) = w := cl_nI (by omega)
        refine g_iload_4 hC dX7_amend_27 (pc' := 29) rfl ?_
        refine g_iconst hC dX7_amend_29 (pc' := 30) kc_iconst_1 rfl ?_
        refine g_bipush hC dX7_amend_30 (pc' := 32) kc_bipush_9 rfl ?_
        refine g_callS3R hC (c_in) ml_X7_43 ⟨(Nat.le_of_ble_eq_true rfl), (Nat.le_of_ble_eq_true rfl)⟩ (Nat.le_of_ble_eq_true rfl) dX7_amend_32 (pc' := 35) rfl ⟨Nat.zero_le _, Nat.zero_le _⟩ ?_
        refine g_ifZ_ne hC dX7_amend_35 (pc' := 38) (tgt := 41) (by decide) rfl (fun h35 => ?_) (fun h35 => ?_)
        · obtain ⟨q, rfl, hq1, hq⟩ := inB_N (by decide) h35 (by decide)
          have cq : cl (nI q) = q := cl_nI (by omega)
          refine g_aload_0 hC dX7_amend_41 (pc' := 42) rfl ?_
          refine g_iload_1 hC dX7_amend_42 (pc' := 43) rfl ?_
          refine g_callV1R hC (c_isInStack (s := s) (by omega) hm.1 hI) ml_X7_54 (sh_M ad) rfl ⟨(Nat.le_of_ble_eq_true rfl), (Nat.le_of_ble_eq_true rfl)⟩ (Nat.le_of_ble_eq_true rfl) dX7_amend_43 (pc' := 46) rfl ⟨Nat.zero_le _, Nat.zero_le _⟩ ?_
          refine g_ifZ_eq hC dX7_amend_46 (pc' := 49) (tgt := 52) (by decide) rfl (fun h46 => ?_) (fun h46 => ?_)
          · refine g_aload_0 hC dX7_amend_52 (pc' := 53) rfl ?_
            refine g_iload_1 hC dX7_amend_53 (pc' := 54) rfl ?_
            refine g_iload_2 hC dX7_amend_54 (pc' := 55) rfl ?_
            refine g_callV2R hC (c_many (s := s) (f := f) (by omega) (by omega) hm.1) ml_X7_61 (sh_M ad) rfl ⟨(Nat.le_of_ble_eq_true rfl), (Nat.le_of_ble_eq_true rfl)⟩ (Nat.le_of_ble_eq_true rfl) dX7_amend_55 (pc' := 58) rfl ⟨Nat.zero_le _, Nat.zero_le _⟩ ?_
            refine g_bipush hC dX7_amend_58 (pc' := 60) kc_bipush_8 rfl ?_
            refine g_icmpN_ne hC dX7_amend_60 (pc' := 63) (tgt := 66) (by decide) rfl (by omega) (by omega) (fun h60 => ?_) (fun h60 => ?_)
            · refine g_aload_0 hC dX7_amend_66 (pc' := 67) rfl ?_
              refine g_callV0V hC (c_record hm hI) ml_X7_47 (sh_M ad) rfl ⟨(Nat.le_of_ble_eq_true rfl), (Nat.le_of_ble_eq_true rfl)⟩ (Nat.le_of_ble_eq_true rfl) dX7_amend_67 (pc' := 70) rfl ⟨Nat.zero_le _, Nat.zero_le _⟩ (fun X67 q67 => ?_)
              obtain ⟨m67, f67⟩ := q67
              refine g_aload_0 hC dX7_amend_70 (pc' := 71) rfl ?_
              refine g_getR hC fl_X7_7 (sh_M ad) rfl dX7_amend_71 (pc' := 74) rfl ?_
              refine g_bipush hC dX7_amend_74 (pc' := 76) kc_bipush_14 rfl ?_
              refine g_iload_1 hC dX7_amend_76 (pc' := 77) rfl ?_
              refine g_iaddN hC dX7_amend_77 (pc' := 78) rfl ?_
              refine g_dup2 hC dX7_amend_78 (pc' := 79) rfl rfl rfl ?_
              refine g_iald hC (sh_mnow ad) (Nat.le_of_ble_eq_true rfl) (by omega) (m67.1.at (by omega) (by omega)) dX7_amend_79 (pc' := 80) rfl ?_
              refine g_iconst hC dX7_amend_80 (pc' := 81) kc_iconst_1 rfl ?_
              refine g_iload_2 hC dX7_amend_81 (pc' := 82) rfl ?_
              refine g_ishl1 hC dX7_amend_82 (pc' := 83) rfl (by omega) ?_
              refine g_iorN hC dX7_amend_83 (pc' := 84) rfl ?_
              refine g_iast hC (sh_mnow ad) (Nat.le_of_ble_eq_true rfl) (by omega) dX7_amend_84 (pc' := 85) rfl ?_
              have hRa : RM (gu X67 202 (14 + s) ((nI ((g (14 + s)) ||| (2 ^ f))))) (apt g s f false) := (m67.1.upd (i := 14 + s) (by omega)).congr (fun j _ => by unfold apt; rw [if_neg (by decide)])
              refine g_aload_0 hC dX7_amend_85 (pc' := 86) rfl ?_
              refine g_iload_1 hC dX7_amend_86 (pc' := 87) rfl ?_
              refine g_iload_2 hC dX7_amend_87 (pc' := 88) rfl ?_
              refine g_iload_3 hC dX7_amend_88 (pc' := 89) rfl ?_
              refine g_iload_4 hC dX7_amend_89 (pc' := 91) rfl ?_
              refine g_callV4V hC (c_addMark (s := s) (f := f) (v := w) (p := q) (g := apt g s f false) (by omega) (by omega) (by rw [apt_cnt (by omega) (by omega) (by omega)]; omega) hRa) ml_X7_89 (sh_M ad) rfl ⟨(Nat.le_of_ble_eq_true rfl), (Nat.le_of_ble_eq_true rfl)⟩ (Nat.le_of_ble_eq_true rfl) dX7_amend_91 (pc' := 94) rfl ⟨Nat.zero_le _, Nat.zero_le _⟩ (fun X91 q91 => ?_)
              obtain ⟨r91, e91⟩ := q91
              have hc97 : X91 202 (20 + (10 * s + f)) = nI (cnt g s f + 1) := (r91.at (by omega) (by omega)).trans (congrArg nI (by unfold addm; rw [apt_cnt (by omega) (by omega) (by omega)]; unfold updN; rw [if_pos rfl]))
              refine g_aload_0 hC dX7_amend_94 (pc' := 95) rfl ?_
              refine g_iload_1 hC dX7_amend_95 (pc' := 96) rfl ?_
              refine g_iload_2 hC dX7_amend_96 (pc' := 97) rfl ?_
              refine g_callV2R hC (c_manyV (s := s) (f := f) (by omega) (by omega) hc97) ml_X7_61 (sh_M ad) rfl ⟨(Nat.le_of_ble_eq_true rfl), (Nat.le_of_ble_eq_true rfl)⟩ (Nat.le_of_ble_eq_true rfl) dX7_amend_97 (pc' := 100) rfl ⟨Nat.zero_le _, Nat.zero_le _⟩ ?_
              refine g_iretI hC hRt rfl dX7_amend_100 ?_
              refine ⟨?_, MRc_t ?_ ?_, f67.tr ((fW.n gu_ne).tr (fW.n e91))⟩
              · simp only [rAmend, okAmend, cl_nI, h4, cs, h11, cf, h24, cw, h35, cq, h46, eq_false h60, decide_true, decide_false, Bool.not_true, Bool.not_false, ↓reduceIte, Bool.false_eq_true, Bool.and_true, Bool.true_and]
              · simp only [okAmend, cl_nI, h4, cs, h11, cf, h24, cw, h35, cq, h46, eq_false h60, decide_true, decide_false, Bool.not_true, Bool.not_false, ↓reduceIte, Bool.false_eq_true, Bool.and_true, Bool.true_and, decide_true, decide_false, Bool.not_true, Bool.not_false]
              · rw [gAmend, cs, cf, cw, cq]
                exact (m67.n hRa gu_ne).n r91 e91
            · refine g_bipush hC dX7_amend_63 (pc' := 65) kc_bipush_m4 rfl ?_
              refine g_iretI hC hRt rfl dX7_amend_65 ?_
              refine ⟨?_, MRc_f ?_ hm, fW.rf⟩
              · simp only [rAmend, okAmend, cl_nI, h4, cs, h11, cf, h24, cw, h35, cq, h46, eq_true h60, decide_true, decide_false, Bool.not_true, Bool.not_false, ↓reduceIte, Bool.false_eq_true, Bool.and_true, Bool.true_and, Bool.and_false, Bool.false_and]
              · simp only [okAmend, cl_nI, h4, cs, h11, cf, h24, cw, h35, cq, h46, eq_true h60, decide_true, decide_false, Bool.not_true, Bool.not_false, ↓reduceIte, Bool.false_eq_true, Bool.and_true, Bool.true_and, Bool.and_false, Bool.false_and, decide_true, decide_false, Bool.not_true, Bool.not_false]
          · refine g_bipush hC dX7_amend_49 (pc' := 51) kc_bipush_m5 rfl ?_
            refine g_iretI hC hRt rfl dX7_amend_51 ?_
            refine ⟨?_, MRc_f ?_ hm, fW.rf⟩
            · simp only [rAmend, okAmend, cl_nI, h4, cs, h11, cf, h24, cw, h35, cq, h46, decide_true, decide_false, Bool.not_true, Bool.not_false, ↓reduceIte, Bool.false_eq_true, Bool.and_true, Bool.true_and, Bool.and_false, Bool.false_and]
            · simp only [okAmend, cl_nI, h4, cs, h11, cf, h24, cw, h35, cq, h46, decide_true, decide_false, Bool.not_true, Bool.not_false, ↓reduceIte, Bool.false_eq_true, Bool.and_true, Bool.true_and, Bool.and_false, Bool.false_and, decide_true, decide_false, Bool.not_true, Bool.not_false]
        · refine g_bipush hC dX7_amend_38 (pc' := 40) kc_bipush_m2 rfl ?_
          refine g_iretI hC hRt rfl dX7_amend_40 ?_
          refine ⟨?_, MRc_f ?_ hm, fW.rf⟩
          · simp only [rAmend, okAmend, cl_nI, h4, cs, h11, cf, h24, cw, h35, decide_true, decide_false, Bool.not_true, Bool.not_false, ↓reduceIte, Bool.false_eq_true, Bool.and_true, Bool.true_and, Bool.and_false, Bool.false_and]
          · simp only [okAmend, cl_nI, h4, cs, h11, cf, h24, cw, h35, decide_true, decide_false, Bool.not_true, Bool.not_false, ↓reduceIte, Bool.false_eq_true, Bool.and_true, Bool.true_and, Bool.and_false, Bool.false_and, decide_true, decide_false, Bool.not_true, Bool.not_false]
    · refine g_iconst hC dX7_amend_14 (pc' := 15) kc_iconst_m1 rfl ?_
      refine g_iretI hC hRt rfl dX7_amend_15 ?_
      refine ⟨?_, MRc_f ?_ hm, fW.rf⟩
      · simp only [rAmend, okAmend, cl_nI, h4, cs, h11, decide_true, decide_false, Bool.not_true, Bool.not_false, ↓reduceIte, Bool.false_eq_true, Bool.and_true, Bool.true_and, Bool.and_false, Bool.false_and]
      · simp only [okAmend, cl_nI, h4, cs, h11, decide_true, decide_false, Bool.not_true, Bool.not_false, ↓reduceIte, Bool.false_eq_true, Bool.and_true, Bool.true_and, Bool.and_false, Bool.false_and, decide_true, decide_false, Bool.not_true, Bool.not_false]
