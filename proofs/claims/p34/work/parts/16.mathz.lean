theorem or0 (x : Int32) : x ||| nI 0 = x := by
  apply Int32.toBitVec_inj.mp
  have : (nI 0).toBitVec = 0#32 := rfl
  simp [Int32.toBitVec_or, this]
theorem cnt_t {f : Nat → Bool} {i : Nat} (h : f i = true) : cnt f (i + 1) = cnt f i + 1 := by
  show cnt f i + (if f i = true then 1 else 0) = _
  rw [if_pos h]
theorem cnt_f {f : Nat → Bool} {i : Nat} (h : f i = false) : cnt f (i + 1) = cnt f i := by
  show cnt f i + (if f i = true then 1 else 0) = _
  rw [if_neg (by rw [h]; decide)]; rfl
theorem oAdopt_1a {M : mSt} {x y : Int32} (h : look (sE M) x = none) : oAdopt M x y = oErr M 1 := by unfold oAdopt; rw [h]
theorem oAdopt_1b {M : mSt} {x y : Int32} {s : Nat} (h : look (sE M) x = some s) (hy : ¬ y = -1) (h2 : look (sE M) y = none) : oAdopt M x y = oErr M 1 := by unfold oAdopt; rw [h]; exact if_pos ⟨hy, h2⟩
theorem lookO_m {E : mE} : lookO E (-1) = none := if_pos rfl
theorem lookO_n {E : mE} {y : Int32} (h : ¬ y = -1) : lookO E y = look E y := if_neg h
theorem oAdopt_2 {M : mSt} {x y : Int32} {s p : Nat} (h : look (sE M) x = some s) (hy : ¬ y = -1) (h2 : look (sE M) y = some p) (hg : goesB (sE M) p s = true) : oAdopt M x y = oErr M 2 := by
  unfold oAdopt; rw [h]
  refine (if_neg (fun z => by rw [h2] at z; exact nomatch z.2)).trans (if_pos ⟨p, by rw [lookO_n hy]; exact h2, hg⟩)
theorem oAdopt_3 {M : mSt} {x y : Int32} {s : Nat} (h : look (sE M) x = some s) (hy : y = -1 ∨ ∃ p, look (sE M) y = some p ∧ goesB (sE M) p s = false) (hw : wOn (sW M) = true) : oAdopt M x y = oErr M 3 := by
  unfold oAdopt; rw [h]
  refine (if_neg (fun z => ?_)).trans ((if_neg (fun z => ?_)).trans (if_pos hw))
  · rcases hy with hy | ⟨p, e1, e2⟩
    · exact z.1 hy
    · rw [e1] at z; exact nomatch z.2
  · obtain ⟨q, e3, e4⟩ := z
    by_cases c : y = -1
    · rw [c, lookO_m] at e3; cases e3
    · rcases hy with hy | ⟨p, e1, e2⟩
      · exact c hy
      · rw [lookO_n c, e1] at e3
        obtain rfl := Option.some.inj e3
        rw [e2] at e4; cases e4
theorem oAdopt_0 {M : mSt} {x y : Int32} {s : Nat} (h : look (sE M) x = some s) (hy : y = -1 ∨ ∃ p, look (sE M) y = some p ∧ goesB (sE M) p s = false) (hw : wOn (sW M) = false) : oAdopt M x y = (0, hdlO (sE M) (mPar (sE M) s), wE M (mAl (sE M), mHad (sE M), mKd (sE M), nu (mPar (sE M)) s (lookO (sE M) y), mVal (sE M), mMk (sE M))) := by
  unfold oAdopt; rw [h]
  refine (if_neg (fun z => ?_)).trans ((if_neg (fun z => ?_)).trans (if_neg (by rw [hw]; decide)))
  · rcases hy with hy | ⟨p, e1, e2⟩
    · exact z.1 hy
    · rw [e1] at z; exact nomatch z.2
  · obtain ⟨q, e3, e4⟩ := z
    by_cases c : y = -1
    · rw [c, lookO_m] at e3; cases e3
    · rcases hy with hy | ⟨p, e1, e2⟩
      · exact c hy
      · rw [lookO_n c, e1] at e3
        obtain rfl := Option.some.inj e3
        rw [e2] at e4; cases e4
theorem relE_par {Y Y1 : Nat → Nat → Int32} {E : mE} {s : Nat} {o : Option Nat} (h : RelE Y E) (e4 : ∀ x, Y1 4 x = if x = s then nO o else Y 4 x) (e : ∀ j, j < 7 → j ≠ 4 → Y1 j = Y j) : RelE Y1 (mAl E, mHad E, mKd E, nu (mPar E) s o, mVal E, mMk E) := by
  obtain ⟨a1, a2, a3, a4, a5, a6⟩ := h
  refine ⟨?_, ?_, ?_, fun k hk ha => ?_, ?_, ?_⟩
  · rw [e 1 (by decide) (by decide)]; exact a1
  · rw [e 2 (by decide) (by decide)]; exact a2
  · rw [e 3 (by decide) (by decide)]; exact a3
  · show Y1 4 k = nO (nu (mPar E) s o k)
    rw [e4]
    by_cases c : k = s
    · rw [c, nu_s, if_pos rfl]
    · rw [nu_n c, if_neg c]; exact a4 k hk ha
  · rw [e 5 (by decide) (by decide)]; exact a5
  · rw [e 6 (by decide) (by decide)]; exact a6
theorem goes_t {E : mE} {a b n : Nat} (h : anc E n a = some b) : goesB E a b = true := by
  unfold goesB; exact @decide_eq_true _ (Classical.propDecidable _) ⟨n, h⟩
theorem anc_none {E : mE} {a n : Nat} (h : anc E n a = none) : ∀ m, anc E (n + m) a = none := by
  intro m
  induction m with
  | zero => exact h
  | succ m ih =>
    show (anc E (n + m) a).bind (mPar E) = none
    rw [ih]; rfl
theorem goes_f {E : mE} {a b n : Nat} (h : anc E n a = none) (h2 : ∀ m, m < n → anc E m a ≠ some b) : goesB E a b = false := by
  unfold goesB
  refine @decide_eq_false _ (Classical.propDecidable _) (fun z => ?_)
  obtain ⟨k, hk⟩ := z
  rcases Nat.lt_or_ge k n with q | q
  · exact h2 k q hk
  · have := anc_none h (k - n)
    rw [show n + (k - n) = k by omega, hk] at this; cases this
theorem anc_al {E : mE} (iE : InvE E) {a : Nat} (ha : mAl E a = true) : ∀ n k, anc E n a = some k → mAl E k = true := by
  intro n
  induction n with
  | zero => intro k h; obtain rfl := Option.some.inj h; exact ha
  | succ n ih =>
    intro k h
    have h : (anc E n a).bind (mPar E) = some k := h
    cases q : anc E n a with
    | none => rw [q] at h; cases h
    | some j => rw [q] at h; exact iE.2.2.2.1 j k h
def muO (dp : Nat → Nat) (r : Option Nat) : Nat := match r with
  | none => 0
  | some k => dp k + 1
theorem chl_t {E : mE} {s i : Nat} (h : mPar E i = some s) : chl E s (i + 1) = chl E s i ||| (nI 1 <<< (nI i &&& 31)) := if_pos h
theorem chl_f {E : mE} {s i : Nat} (h : ¬ mPar E i = some s) : chl E s (i + 1) = chl E s i := if_neg h
theorem par_lt {E : mE} (iE : InvE E) {k j : Nat} (h : mPar E k = some j) : j < 32 := iE.2.1 j (iE.2.2.2.1 k j h)
theorem par_al {E : mE} (iE : InvE E) {k j : Nat} (h : mPar E k = some j) : mAl E k = true := by
  cases q : mAl E k with
  | true => rfl
  | false => rw [(iE.2.2.1 k q).2] at h; cases h
theorem par_eq {E : mE} (iE : InvE E) {k sl : Nat} (hs : sl < 32) (h : nO (mPar E k) = nI sl) : mPar E k = some sl := (nO_inj (a := mPar E k) (b := some sl) (fun z hz => by have := par_lt iE hz; omega) (fun z hz => by obtain rfl := Option.some.inj hz; omega)).mp h
theorem ask_1 {M : mSt} {x kd : Int32} (h : look (sE M) x = none) : ask M x kd = (1, 0, 0) := by unfold ask; rw [h]
theorem ask_2 {M : mSt} {x kd : Int32} {sl : Nat} (h : look (sE M) x = some sl) (h2 : isK kd = false) : ask M x kd = (2, 0, 0) := by unfold ask; rw [h]; exact if_pos h2
theorem ask_3 {M : mSt} {x : Int32} {sl i : Nat} (h : look (sE M) x = some sl) (hi : i < 6) (h2 : isK (nI i) = true) (h3 : bitS (mKd (sE M) sl) i = false) : ask M x (nI i) = (3, 0, 0) := by
  unfold ask; rw [h]
  refine (if_neg (by rw [h2]; decide)).trans (if_pos ?_)
  rw [ix_nI (by omega)]; exact h3
theorem ask_0 {M : mSt} {x : Int32} {sl i : Nat} (h : look (sE M) x = some sl) (hi : i < 6) (h2 : isK (nI i) = true) (h3 : bitS (mKd (sE M) sl) i = true) : ask M x (nI i) = (0, sl, i) := by
  unfold ask; rw [h]
  refine (if_neg (by rw [h2]; decide)).trans ((if_neg ?_).trans ?_)
  · rw [ix_nI (by omega), h3]; decide
  · rw [ix_nI (by omega)]
theorem oAdd_1 {M : mSt} {x kd v : Int32} (h : look (sE M) x = none) : oAdd M x kd v = oErr M 1 := by unfold oAdd; rw [h]
theorem oAdd_2 {M : mSt} {x kd v : Int32} {sl : Nat} (h : look (sE M) x = some sl) (h2 : isK kd = false) : oAdd M x kd v = oErr M 2 := by unfold oAdd; rw [h]; exact if_pos h2
theorem oAdd_3 {M : mSt} {x v : Int32} {sl i : Nat} (h : look (sE M) x = some sl) (hi : i < 6) (h2 : isK (nI i) = true) (h3 : bitS (mKd (sE M) sl) i = true ∨ wOn (sW M) = true) : oAdd M x (nI i) v = oErr M 3 := by
  unfold oAdd; rw [h]
  refine (if_neg (by rw [h2]; decide)).trans (if_pos ?_)
  rw [ix_nI (by omega)]; exact h3
theorem oAdd_0 {M : mSt} {x v : Int32} {sl i : Nat} (h : look (sE M) x = some sl) (hi : i < 6) (h2 : isK (nI i) = true) (h3 : bitS (mKd (sE M) sl) i = false) (h4 : wOn (sW M) = false) : oAdd M x (nI i) v = (0, nI (setB (mKd (sE M) sl) i), wER M (addsE (sE M) sl i v (sT M)) (addsR (sE M) (sR M) sl i)) := by
  unfold oAdd; rw [h]
  refine (if_neg (by rw [h2]; decide)).trans ((if_neg ?_).trans ?_)
  · rw [ix_nI (by omega), h3, h4]; exact fun z => by rcases z with z | z <;> cases z
  · rw [ix_nI (by omega)]
theorem Rel.e {S S1 : Nat → Int32} {Y Y1 : Nat → Nat → Int32} {M : mSt} {E1 : mE} (h : Rel S Y M) (hE : RelE Y1 E1) (fs : ∀ j, j ≠ 0 → S1 j = S j) (fy : ∀ j, 7 ≤ j → j ≠ 22 → Y1 j = Y j) (hw : wOn (sW M) = true → ∀ i, i < wN (sW M) → handle E1 (wA (sW M) i) = handle (sE M) (wA (sW M) i)) : Rel S1 Y1 (wE M E1) := by
  obtain ⟨a1, -, a3, a4, a5, a6⟩ := h
  exact ⟨(fs 1 (by decide)).trans a1, hE, a3.cong (fs 12 (by decide)) (fun j h1 h2 => fy j h1 (by omega)), a4.cong (fs 16 (by decide)) (fun j h1 h2 => fy j (by omega) (by omega)), a5.cong (fun j h1 h2 => fs j (by omega)) (fun j h1 h2 => fy j (by omega) (by omega)) hw, a6.cong (fs 29 (by decide)) (fun j h1 h2 => fy j (by omega) (by omega))⟩
