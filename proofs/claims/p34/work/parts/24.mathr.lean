theorem stgTo_t {Y : mQ} {rd wr k : Nat} (h1 : barB rd wr (Y.2.1 k) (Y.2.2.1 k) = true) (h2 : ¬ Y.2.2.2 k < stgTo Y rd wr k) : stgTo Y rd wr (k + 1) = Y.2.2.2 k + 1 := if_pos ⟨h1, Nat.not_lt.mp h2⟩
theorem stgTo_f {Y : mQ} {rd wr k : Nat} (h : barB rd wr (Y.2.1 k) (Y.2.2.1 k) = false ∨ Y.2.2.2 k < stgTo Y rd wr k) : stgTo Y rd wr (k + 1) = stgTo Y rd wr k := if_neg (fun z => by
  rcases h with h | h
  · rw [h] at z; exact nomatch z.1
  · exact absurd z.2 (Nat.not_le.mpr h))
theorem stgTo_le {Y : mQ} (h : InvY Y) {rd wr : Nat} : ∀ k, k ≤ Y.1 → stgTo Y rd wr k ≤ k := by
  intro k
  induction k with
  | zero => intro _; exact Nat.le_refl _
  | succ k ih =>
    intro hk
    have h1 := ih (by omega)
    have h2 := (h.2 k (by omega)).2.2
    show (if _ then Y.2.2.2 k + 1 else stgTo Y rd wr k) ≤ _
    split
    · exact Nat.succ_le_succ h2
    · exact Nat.le_succ_of_le h1
theorem stgs_le {Y : mQ} (h : InvY Y) : ∀ k, k ≤ Y.1 → stgs Y k ≤ k := by
  intro k
  induction k with
  | zero => intro _; exact Nat.le_refl _
  | succ k ih =>
    intro hk
    have h1 := ih (by omega)
    have h2 := (h.2 k (by omega)).2.2
    show (if _ then Y.2.2.2 k + 1 else stgs Y k) ≤ _
    split
    · exact Nat.succ_le_succ h2
    · exact Nat.le_succ_of_le h1
theorem stgs_t {Y : mQ} {k : Nat} (h : ¬ Y.2.2.2 k + 1 ≤ stgs Y k) : stgs Y (k + 1) = Y.2.2.2 k + 1 := if_pos (Nat.not_le.mp h)
theorem stgs_f {Y : mQ} {k : Nat} (h : Y.2.2.2 k + 1 ≤ stgs Y k) : stgs Y (k + 1) = stgs Y k := if_neg (Nat.not_lt.mpr h)
theorem sumK_t {rd i : Nat} {f : Nat → Int32} (h : bitS rd i = true) : sumK rd f (i + 1) = sumK rd f i + f i := if_pos h
theorem sumK_f {rd i : Nat} {f : Nat → Int32} (h : bitS rd i = false) : sumK rd f (i + 1) = sumK rd f i := if_neg (by rw [h]; decide)
theorem cntK_t {wr i : Nat} (h : bitS wr i = true) : cntK wr (i + 1) = cntK wr i + 1 := by
  show cntK wr i + (if bitS wr i = true then 1 else 0) = _
  rw [if_pos h]
theorem cntK_f {wr i : Nat} (h : bitS wr i = false) : cntK wr (i + 1) = cntK wr i := by
  show cntK wr i + (if bitS wr i = true then 1 else 0) = _
  rw [if_neg (by rw [h]; decide)]; rfl
theorem cntK_le {wr : Nat} : ∀ i, cntK wr i ≤ i := by
  intro i
  induction i with
  | zero => exact Nat.le_refl _
  | succ i ih =>
    show cntK wr i + (if bitS wr i = true then 1 else 0) ≤ _
    split <;> omega
theorem bitS_f {x : Bool} (h : ¬ x = true) : x = false := by
  cases x with
  | true => exact absurd rfl h
  | false => rfl
/-- one slot's values and marks while a system writes them -/
def wkV (wr : Nat) (sm : Int32) (f : Nat → Int32) (n : Nat) : Nat → Int32 := fun j => if j < n ∧ bitS wr j = true then f j + sm else f j
def wkM (wr : Nat) (t : Int32) (f : Nat → Int32) (n : Nat) : Nat → Int32 := fun j => if j < n ∧ bitS wr j = true then t else f j
def wkE (E : mE) (k wr : Nat) (sm t : Int32) (n : Nat) : mE := (mAl E, mHad E, mKd E, mPar E, nu (mVal E) k (wkV wr sm (mVal E k) n), nu (mMk E) k (wkM wr t (mMk E k) n))
theorem wkV_s {wr n : Nat} {sm : Int32} {f : Nat → Int32} : wkV wr sm f (n + 1) = if bitS wr n = true then nu (wkV wr sm f n) n (f n + sm) else wkV wr sm f n := by
  funext j
  by_cases hb : bitS wr n = true
  · rw [if_pos hb]
    by_cases cj : j = n
    · rw [cj, nu_s]; show (if n < n + 1 ∧ bitS wr n = true then _ else _) = _; rw [if_pos ⟨Nat.lt_succ_self n, hb⟩]
    · rw [nu_n cj]; show (if j < n + 1 ∧ bitS wr j = true then _ else _) = (if j < n ∧ bitS wr j = true then _ else _)
      by_cases c1 : j < n ∧ bitS wr j = true
      · rw [if_pos c1, if_pos ⟨by omega, c1.2⟩]
      · rw [if_neg c1, if_neg (fun z => c1 ⟨by omega, z.2⟩)]
  · rw [if_neg hb]
    show (if j < n + 1 ∧ bitS wr j = true then _ else _) = (if j < n ∧ bitS wr j = true then _ else _)
    by_cases c1 : j < n ∧ bitS wr j = true
    · rw [if_pos c1, if_pos ⟨by omega, c1.2⟩]
    · rw [if_neg c1, if_neg (fun z => c1 ⟨by have : j ≠ n := fun e => hb (by rw [← e]; exact z.2); omega, z.2⟩)]
theorem wkM_s {wr n : Nat} {t : Int32} {f : Nat → Int32} : wkM wr t f (n + 1) = if bitS wr n = true then nu (wkM wr t f n) n t else wkM wr t f n := by
  funext j
  by_cases hb : bitS wr n = true
  · rw [if_pos hb]
    by_cases cj : j = n
    · rw [cj, nu_s]; show (if n < n + 1 ∧ bitS wr n = true then _ else _) = _; rw [if_pos ⟨Nat.lt_succ_self n, hb⟩]
    · rw [nu_n cj]; show (if j < n + 1 ∧ bitS wr j = true then _ else _) = (if j < n ∧ bitS wr j = true then _ else _)
      by_cases c1 : j < n ∧ bitS wr j = true
      · rw [if_pos c1, if_pos ⟨by omega, c1.2⟩]
      · rw [if_neg c1, if_neg (fun z => c1 ⟨by omega, z.2⟩)]
  · rw [if_neg hb]
    show (if j < n + 1 ∧ bitS wr j = true then _ else _) = (if j < n ∧ bitS wr j = true then _ else _)
    by_cases c1 : j < n ∧ bitS wr j = true
    · rw [if_pos c1, if_pos ⟨by omega, c1.2⟩]
    · rw [if_neg c1, if_neg (fun z => c1 ⟨by have : j ≠ n := fun e => hb (by rw [← e]; exact z.2); omega, z.2⟩)]
theorem nu_nu {α : Type} {f : Nat → α} {k : Nat} {a b : α} : nu (nu f k a) k b = nu f k b := by
  funext j
  by_cases c : j = k
  · rw [c, nu_s, nu_s]
  · rw [nu_n c, nu_n c, nu_n c]
theorem nu_id {α : Type} {f : Nat → α} {k : Nat} : nu f k (f k) = f := by
  funext j
  by_cases c : j = k
  · rw [c, nu_s]
  · rw [nu_n c]
theorem wkE_0 {E : mE} {k wr : Nat} {sm t : Int32} : wkE E k wr sm t 0 = E := by
  have h1 : wkV wr sm (mVal E k) 0 = mVal E k := by funext j; exact if_neg (fun z => absurd z.1 (Nat.not_lt_zero j))
  have h2 : wkM wr t (mMk E k) 0 = mMk E k := by funext j; exact if_neg (fun z => absurd z.1 (Nat.not_lt_zero j))
  unfold wkE; rw [h1, h2, nu_id, nu_id]
theorem wkE_t {E : mE} {k wr n : Nat} {sm t : Int32} (h : bitS wr n = true) : putE (wkE E k wr sm t n) k n (mVal E k n + sm) t = wkE E k wr sm t (n + 1) := by
  show (mAl E, mHad E, mKd E, mPar E, nu (nu (mVal E) k (wkV wr sm (mVal E k) n)) k (nu (nu (mVal E) k (wkV wr sm (mVal E k) n) k) n (mVal E k n + sm)), nu (nu (mMk E) k (wkM wr t (mMk E k) n)) k (nu (nu (mMk E) k (wkM wr t (mMk E k) n) k) n t)) = (mAl E, mHad E, mKd E, mPar E, nu (mVal E) k (wkV wr sm (mVal E k) (n + 1)), nu (mMk E) k (wkM wr t (mMk E k) (n + 1)))
  rw [nu_nu, nu_nu, nu_s, nu_s, wkV_s, wkM_s, if_pos h, if_pos h]
theorem wkE_f {E : mE} {k wr n : Nat} {sm t : Int32} (h : bitS wr n = false) : wkE E k wr sm t (n + 1) = wkE E k wr sm t n := by
  unfold wkE
  rw [wkV_s, wkM_s, if_neg (by rw [h]; decide), if_neg (by rw [h]; decide)]
theorem wkE_v {E : mE} {k wr n : Nat} {sm t : Int32} : mVal (wkE E k wr sm t n) k n = mVal E k n := by
  show nu (mVal E) k (wkV wr sm (mVal E k) n) k n = _
  rw [nu_s]; exact if_neg (fun z => absurd z.1 (Nat.lt_irrefl n))
/-- a system over the slots below i of the set p -/
def sysT (E : mE) (rd wr : Nat) (t : Int32) (p : Nat → Bool) (i : Nat) : mE := sysE E rd wr t (fun k => decide (k < i) && p k)
theorem sysT_val {E : mE} {rd wr : Nat} {t : Int32} {p : Nat → Bool} {i : Nat} : mVal (sysT E rd wr t p i) i = mVal E i := if_neg (by show ¬ (decide (i < i) && p i) = true; rw [decide_eq_false (Nat.lt_irrefl i)]; exact fun z => nomatch z)
theorem sysT_mk {E : mE} {rd wr : Nat} {t : Int32} {p : Nat → Bool} {i : Nat} : mMk (sysT E rd wr t p i) i = mMk E i := if_neg (by show ¬ (decide (i < i) && p i) = true; rw [decide_eq_false (Nat.lt_irrefl i)]; exact fun z => nomatch z)
theorem wk6V {rd wr : Nat} {f : Nat → Int32} : wkV wr (sumK rd f 6) f 6 = workV rd wr f := rfl
theorem wk6M {wr : Nat} {t : Int32} {f : Nat → Int32} : wkM wr t f 6 = workM wr t f := rfl
theorem sysT_t {E : mE} {rd wr : Nat} {t : Int32} {p : Nat → Bool} {i : Nat} (h : p i = true) : wkE (sysT E rd wr t p i) i wr (sumK rd (mVal E i) 6) t 6 = sysT E rd wr t p (i + 1) := by
  unfold wkE
  rw [sysT_val, sysT_mk, wk6V, wk6M]
  have hv : nu (mVal (sysT E rd wr t p i)) i (workV rd wr (mVal E i)) = mVal (sysT E rd wr t p (i + 1)) := by
    funext k
    show _ = if (decide (k < i + 1) && p k) = true then workV rd wr (mVal E k) else mVal E k
    by_cases c : k = i
    · rw [c, nu_s, if_pos (by rw [h, decide_eq_true (Nat.lt_succ_self i)]; rfl)]
    · rw [nu_n c]
      show (if (decide (k < i) && p k) = true then workV rd wr (mVal E k) else mVal E k) = _
      rw [show decide (k < i) = decide (k < i + 1) from decide_eq_decide.mpr (by omega)]
  have hm : nu (mMk (sysT E rd wr t p i)) i (workM wr t (mMk E i)) = mMk (sysT E rd wr t p (i + 1)) := by
    funext k
    show _ = if (decide (k < i + 1) && p k) = true then workM wr t (mMk E k) else mMk E k
    by_cases c : k = i
    · rw [c, nu_s, if_pos (by rw [h, decide_eq_true (Nat.lt_succ_self i)]; rfl)]
    · rw [nu_n c]
      show (if (decide (k < i) && p k) = true then workM wr t (mMk E k) else mMk E k) = _
      rw [show decide (k < i) = decide (k < i + 1) from decide_eq_decide.mpr (by omega)]
  rw [hv, hm]; rfl
theorem sysE_cong {E : mE} {rd wr : Nat} {t : Int32} {p1 p2 : Nat → Bool} {Y : Nat → Nat → Int32} (h : RelE Y (sysE E rd wr t p1)) (e : ∀ k, k < 32 → p1 k = p2 k) : RelE Y (sysE E rd wr t p2) := by
  obtain ⟨a1, a2, a3, a4, a5, a6⟩ := h
  refine ⟨a1, a2, a3, a4, fun k i hk hi => ?_, fun k i hk hi => ?_⟩
  · rw [a5 k i hk hi]
    show (if p1 k = true then workV rd wr (mVal E k) else mVal E k) i = (if p2 k = true then workV rd wr (mVal E k) else mVal E k) i
    rw [e k hk]
  · rw [a6 k i hk hi]
    show (if p1 k = true then workM wr t (mMk E k) else mMk E k) i = (if p2 k = true then workM wr t (mMk E k) else mMk E k) i
    rw [e k hk]
theorem sysT_f {E : mE} {rd wr : Nat} {t : Int32} {p : Nat → Bool} {i : Nat} {Y : Nat → Nat → Int32} (h : RelE Y (sysT E rd wr t p i)) (hp : p i = false) : RelE Y (sysT E rd wr t p (i + 1)) := sysE_cong h (fun k _ => by
  by_cases c : k = i
  · rw [c, hp, Bool.and_false, Bool.and_false]
  · rw [show decide (k < i) = decide (k < i + 1) from decide_eq_decide.mpr (by omega)])
theorem sysT_32 {E : mE} {rd wr : Nat} {t : Int32} {p : Nat → Bool} {Y : Nat → Nat → Int32} (h : RelE Y (sysT E rd wr t p 32)) : RelE Y (sysE E rd wr t p) := sysE_cong h (fun k hk => by rw [decide_eq_true hk]; rfl)
theorem sysT_0 {E : mE} {rd wr : Nat} {t : Int32} {p : Nat → Bool} : sysT E rd wr t p 0 = E := by
  unfold sysT sysE
  have h1 : (fun k => if (decide (k < 0) && p k) = true then workV rd wr (mVal E k) else mVal E k) = mVal E := by funext k; exact if_neg (by rw [decide_eq_false (Nat.not_lt_zero k)]; exact fun z => nomatch z)
  have h2 : (fun k => if (decide (k < 0) && p k) = true then workM wr t (mMk E k) else mMk E k) = mMk E := by funext k; exact if_neg (by rw [decide_eq_false (Nat.not_lt_zero k)]; exact fun z => nomatch z)
  rw [h1, h2]
theorem runK_t {Y : mQ} {t : Int32} {sg : Nat} {E : mE} {k : Nat} (h : Y.2.2.2 k = sg) : runK Y t sg E (k + 1) = (sysE (runK Y t sg E k).1 (Y.2.1 k) (Y.2.2.1 k) t (hitB E (Y.2.1 k ||| Y.2.2.1 k)), (runK Y t sg E k).2 + nI (cnt (hitB E (Y.2.1 k ||| Y.2.2.1 k)) 32 * cntK (Y.2.2.1 k) 6)) := if_pos h
theorem runK_f {Y : mQ} {t : Int32} {sg : Nat} {E : mE} {k : Nat} (h : ¬ Y.2.2.2 k = sg) : runK Y t sg E (k + 1) = runK Y t sg E k := if_neg h
theorem runK_al {Y : mQ} {t : Int32} {sg : Nat} {E : mE} : ∀ k, mAl (runK Y t sg E k).1 = mAl E ∧ mHad (runK Y t sg E k).1 = mHad E ∧ mKd (runK Y t sg E k).1 = mKd E ∧ mPar (runK Y t sg E k).1 = mPar E := by
  intro k
  induction k with
  | zero => exact ⟨rfl, rfl, rfl, rfl⟩
  | succ k ih =>
    by_cases h : Y.2.2.2 k = sg
    · rw [runK_t h]; exact ih
    · rw [runK_f h]; exact ih
theorem runS_al {Y : mQ} {t : Int32} {E : mE} : ∀ k, mAl (runS Y t E k).1 = mAl E ∧ mHad (runS Y t E k).1 = mHad E ∧ mKd (runS Y t E k).1 = mKd E ∧ mPar (runS Y t E k).1 = mPar E := by
  intro k
  induction k with
  | zero => exact ⟨rfl, rfl, rfl, rfl⟩
  | succ k ih =>
    obtain ⟨a1, a2, a3, a4⟩ := @runK_al Y t k (runS Y t E k).1 Y.1
    exact ⟨a1.trans ih.1, a2.trans ih.2.1, a3.trans ih.2.2.1, a4.trans ih.2.2.2⟩
theorem acc_t {a : Int32} {x y : Nat} : a + nI (x * y) + nI y = a + nI ((x + 1) * y) := by
  rw [Int32.add_assoc, nI_add, Nat.add_mul, Nat.one_mul]
