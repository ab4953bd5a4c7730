/-! small facts for the walks -/
theorem nI_m1 {k : Nat} (h : k < 2 ^ 31) : ¬ nI k = -1 := fun e => by
  have h1 := nI_pos h
  rw [e] at h1
  exact absurd (by decide) h1
def hasR (x : Int32) (i : Nat) : Bool := decide ((x >>> (nI i &&& 31)) &&& nI 1 = nI 1)
theorem hasR_nI {n k : Nat} (hn : n < 64) (hk : k < 6) : hasR (nI n) k = bitS n k := by
  unfold hasR
  cases h : bitS n k with
  | false => exact decide_eq_false (fun e => by rw [(bit_has n hn k hk).mp e] at h; cases h)
  | true => exact decide_eq_true ((bit_has n hn k hk).mpr h)
def isK (x : Int32) : Bool := decide (0 ≤ x ∧ x < nI 6)
def isS (x : Int32) : Bool := decide (0 ≤ x ∧ x < nI 64)
def inB (x : Int32) (n : Nat) : Bool := decide (0 ≤ x ∧ x < nI n)
theorem inB_of {x : Int32} {n : Nat} (hn : n < 2 ^ 31) (h : inB x n = true) : ∃ k, k < n ∧ x = nI k := by
  obtain ⟨h1, h2⟩ := of_decide_eq_true h
  obtain ⟨j, hj, rfl⟩ := nI_of (x := x) (fun z => absurd h1 (Int32.not_le.mpr z))
  exact ⟨j, (nI_ltI hj hn).mp h2, rfl⟩
theorem inB_nI {k n : Nat} (h : k < n) (hn : n < 2 ^ 31) : inB (nI k) n = true := decide_eq_true ⟨nI_pos' (by omega), nI_lt h hn⟩
theorem inB_nI_f {k n : Nat} (hk : k < 2 ^ 31) (h : n ≤ k) : inB (nI k) n = false := decide_eq_false (fun z => nI_nlt h hk z.2)
theorem inB_neg {x : Int32} {n : Nat} (h : x < 0) : inB x n = false := decide_eq_false (fun z => absurd z.1 (Int32.not_le.mpr h))
theorem isK_of {x : Int32} (h : isK x = true) : ∃ k, k < 6 ∧ x = nI k := inB_of (by decide) h
theorem isS_of {x : Int32} (h : isS x = true) : ∃ k, k < 64 ∧ x = nI k := inB_of (by decide) h
theorem i32_nlt {a b : Int32} (h : ¬ a < b) : b ≤ a := Int32.not_lt.mp h
theorem i32_nle {a b : Int32} (h : ¬ a ≤ b) : b < a := Int32.not_le.mp h
theorem hi_mod (j : Nat) (h : j < 2 ^ 31) : (nI j).toBitVec.toNat = j := pk_tn (by omega)
theorem handle_lt {E : mE} {k b : Nat} (hk : k < 32) (hh : mHad E k ≤ b) (hb : b ≤ 1000000) : k + 32 * mHad E k < 2 ^ 31 := by omega
theorem look_nI {E : mE} {j : Nat} {b : Nat} (hj : j < 2 ^ 31) (hb : b ≤ 1000000) (hh : ∀ k, mHad E k ≤ b) : look E (nI j) = if mAl E (j % 32) = true ∧ mHad E (j % 32) = j / 32 then some (j % 32) else none := by
  unfold look
  rw [hi_mod j hj]
  have h1 := hh (j % 32)
  have e : handle E (j % 32) = nI j ↔ mHad E (j % 32) = j / 32 := by
    unfold handle
    rw [nI_eq (by omega) hj]
    omega
  by_cases c : mAl E (j % 32) = true ∧ mHad E (j % 32) = j / 32
  · rw [if_pos c, if_pos ⟨c.1, e.mpr c.2⟩]
  · rw [if_neg c, if_neg (fun z => c ⟨z.1, e.mp z.2⟩)]
theorem look_neg {E : mE} {h : Int32} {b : Nat} (hn : h < 0) (hb : b ≤ 1000000) (hh : ∀ k, mHad E k ≤ b) : look E h = none := by
  unfold look
  rw [if_neg]
  intro z
  have h1 := hh (h.toBitVec.toNat % 32)
  have h2 := z.2
  unfold handle at h2
  exact absurd (by rw [← h2] at hn; exact hn) (nI_pos (by omega))
theorem look_some {E : mE} {h : Int32} {k : Nat} (e : look E h = some k) : k < 32 ∧ mAl E k = true ∧ h = handle E k := by
  unfold look at e
  by_cases c : mAl E (h.toBitVec.toNat % 32) = true ∧ handle E (h.toBitVec.toNat % 32) = h
  · rw [if_pos c] at e
    obtain rfl := Option.some.inj e
    exact ⟨Nat.mod_lt _ (by decide), c.1, c.2.symm⟩
  · rw [if_neg c] at e; cases e
theorem free_to {E : mE} : ∀ (n i : Nat), n ≤ 32 → 32 - n ≤ i → i ≤ 32 → (∀ j, 32 - n ≤ j → j < i → mAl E j = true) → (i = 32 ∨ mAl E i = false) → freeTo E n = i := by
  intro n
  induction n with
  | zero => intro i _ h1 h2 _ _; unfold freeTo; omega
  | succ n ih =>
    intro i hn h1 h2 h3 h4
    unfold freeTo
    by_cases e : i = 31 - n
    · subst e
      rcases h4 with h4 | h4
      · omega
      · rw [if_pos h4]
    · have h5 : mAl E (31 - n) = true := h3 (31 - n) (by omega) (by omega)
      rw [if_neg (by rw [h5]; decide)]
      exact ih i (by omega) (by omega) h2 (fun j a b => h3 j (by omega) b) h4
theorem free_is {E : mE} {i : Nat} (h2 : i ≤ 32) (h3 : ∀ j, j < i → mAl E j = true) (h4 : i = 32 ∨ mAl E i = false) : free E = i := free_to 32 i (Nat.le_refl _) (by omega) h2 (fun j _ b => h3 j b) h4
theorem free_ex (E : mE) : ∃ i, free E = i ∧ i ≤ 32 ∧ (∀ j, j < i → mAl E j = true) ∧ (i = 32 ∨ mAl E i = false) := by
  have key : ∀ n, n ≤ 32 → (∀ j, j < n → mAl E j = true) ∨ ∃ i, i < n ∧ (∀ j, j < i → mAl E j = true) ∧ mAl E i = false := by
    intro n
    induction n with
    | zero => intro _; exact Or.inl (fun j h => absurd h (Nat.not_lt_zero j))
    | succ n ih =>
      intro hn
      rcases ih (by omega) with h | ⟨i, a, b, c⟩
      · cases e : mAl E n with
        | false => exact Or.inr ⟨n, by omega, h, e⟩
        | true => exact Or.inl (fun j hj => by rcases Nat.lt_succ_iff_lt_or_eq.mp hj with q | q; exact h j q; rw [q]; exact e)
      · exact Or.inr ⟨i, by omega, b, c⟩
  rcases key 32 (Nat.le_refl _) with h | ⟨i, a, b, c⟩
  · exact ⟨32, free_is (Nat.le_refl _) h (Or.inl rfl), Nat.le_refl _, h, Or.inl rfl⟩
  · exact ⟨i, free_is (by omega) b (Or.inr c), by omega, b, Or.inr c⟩
theorem row_to {R : mR} {d : Nat} : ∀ (n i : Nat), n ≤ rN R → rN R - n ≤ i → i ≤ rN R → (∀ j, rN R - n ≤ j → j < i → rS R j ≠ d) → (i = rN R ∨ rS R i = d) → rowTo R d n = i := by
  intro n
  induction n with
  | zero => intro i _ h1 h2 _ _; unfold rowTo; omega
  | succ n ih =>
    intro i hn h1 h2 h3 h4
    unfold rowTo
    by_cases e : i = rN R - (n + 1)
    · subst e
      rcases h4 with h4 | h4
      · omega
      · rw [if_pos h4]
    · rw [if_neg (h3 (rN R - (n + 1)) (Nat.le_refl _) (by omega))]
      exact ih i (by omega) (by omega) h2 (fun j a b => h3 j (by omega) b) h4
theorem row_is {R : mR} {d i : Nat} (h2 : i ≤ rN R) (h3 : ∀ j, j < i → rS R j ≠ d) (h4 : i = rN R ∨ rS R i = d) : row R d = i := row_to (rN R) i (Nat.le_refl _) (by omega) h2 (fun j _ b => h3 j b) h4
theorem row_ex (R : mR) (d : Nat) : ∃ i, row R d = i ∧ i ≤ rN R ∧ (∀ j, j < i → rS R j ≠ d) ∧ (i = rN R ∨ rS R i = d) := by
  have key : ∀ n, n ≤ rN R → (∀ j, j < n → rS R j ≠ d) ∨ ∃ i, i < n ∧ (∀ j, j < i → rS R j ≠ d) ∧ rS R i = d := by
    intro n
    induction n with
    | zero => intro _; exact Or.inl (fun j h => absurd h (Nat.not_lt_zero j))
    | succ n ih =>
      intro hn
      rcases ih (by omega) with h | ⟨i, a, b, c⟩
      · by_cases e : rS R n = d
        · exact Or.inr ⟨n, by omega, h, e⟩
        · exact Or.inl (fun j hj => by rcases Nat.lt_succ_iff_lt_or_eq.mp hj with q | q; exact h j q; rw [q]; exact e)
      · exact Or.inr ⟨i, by omega, b, c⟩
  rcases key (rN R) (Nat.le_refl _) with h | ⟨i, a, b, c⟩
  · exact ⟨rN R, row_is (Nat.le_refl _) h (Or.inl rfl), Nat.le_refl _, h, Or.inl rfl⟩
  · exact ⟨i, row_is (by omega) b (Or.inr c), by omega, b, Or.inr c⟩
theorem row_le (R : mR) (d : Nat) : row R d ≤ rN R := by obtain ⟨i, e, h, -⟩ := row_ex R d; omega
theorem row_at {R : mR} {d : Nat} (h : row R d < rN R) : rS R (row R d) = d := by
  obtain ⟨i, e, h1, h2, h3⟩ := row_ex R d
  rw [e] at h ⊢
  rcases h3 with h3 | h3
  · omega
  · exact h3
theorem row_no {R : mR} {d j : Nat} (h : row R d = rN R) (hj : j < rN R) : rS R j ≠ d := by
  obtain ⟨i, e, h1, h2, h3⟩ := row_ex R d
  exact h2 j (by omega)
theorem row_of {R : mR} {d r : Nat} (inj : ∀ a b, a < rN R → b < rN R → rS R a = rS R b → a = b) (hr : r < rN R) (h : rS R r = d) : row R d = r := by
  obtain ⟨i, e, h1, h2, h3⟩ := row_ex R d
  rw [e]
  rcases Nat.lt_or_ge r i with q | q
  · exact absurd h (h2 r q)
  · rcases h3 with h3 | h3
    · omega
    · exact inj i r (by omega) hr (h3.trans h.symm)
theorem bit_dis0 {n d : Nat} (hn : n < 64) (hd : d < 64) : nI n &&& nI d = 0 ↔ disB n d = true := bit_dis n hn d hd
theorem disB_f {n d : Nat} (hn : n < 64) (hd : d < 64) (h : ¬ nI n &&& nI d = 0) : disB n d = false := by
  cases e : disB n d with
  | false => rfl
  | true => exact absurd ((bit_dis0 hn hd).mpr e) h
theorem subB_f {n d : Nat} (hn : n < 64) (hd : d < 64) (h : ¬ nI n &&& nI d = nI d) : subB n d = false := by
  cases e : subB n d with
  | false => rfl
  | true => exact absurd ((bit_sub n hn d hd).mpr e) h
def barB (r1 w1 r2 w2 : Nat) : Bool := !(disB w1 (r2 ||| w2)) || !(disB w2 r1)
theorem row_cong {R R1 : mR} (hn : rN R1 = rN R) (hs : ∀ r, r < rN R → rS R1 r = rS R r) (d : Nat) : row R1 d = row R d := by
  obtain ⟨i, e, h1, h2, h3⟩ := row_ex R d
  rw [e]
  exact row_is (by omega) (fun j hj => by rw [hs j (by omega)]; exact h2 j hj) (by
    rcases h3 with h3 | h3
    · exact Or.inl (by omega)
    · by_cases c : i < rN R
      · exact Or.inr (by rw [hs i c]; exact h3)
      · exact Or.inl (by omega))
theorem relR_new {S S1 : Nat → Int32} {Y Y1 : Nat → Nat → Int32} {R : mR} {d : Nat} (h : RelR S Y R) (hn : row R d = rN R) (h64 : rN R < 64) (e12 : S1 12 = nI (rN R + 1)) (e7 : ∀ x, Y1 7 x = if x = d then nI (rN R) else Y 7 x) (e8 : ∀ x, Y1 8 x = if x = rN R then nI d else Y 8 x) (e9 : ∀ x, Y1 9 x = Y 9 x) (e10 : ∀ x, Y1 10 x = Y 10 x) : RelR S1 Y1 (rowEns R d) := by
  obtain ⟨a1, a2, a3, a4, a5⟩ := h
  have hR : rowEns R d = (rN R + 1, nu (rS R) (rN R) d, nu (rZ R) (rN R) 0, rM R) := if_neg (by omega)
  rw [hR]
  have hrow : ∀ x, row (rN R + 1, nu (rS R) (rN R) d, nu (rZ R) (rN R) 0, rM R) x = if x = d then rN R else if row R x < rN R then row R x else rN R + 1 := by
    intro x
    by_cases c : x = d
    · rw [if_pos c]
      refine row_is (Nat.le_succ _) (fun j hj => ?_) (Or.inr ?_)
      · show nu (rS R) (rN R) d j ≠ x
        rw [nu_n (by omega), c]
        exact row_no hn hj
      · show nu (rS R) (rN R) d (rN R) = x
        rw [nu_s, c]
    · rw [if_neg c]
      obtain ⟨i, e, h1, h2, h3⟩ := row_ex R x
      by_cases c2 : row R x < rN R
      · rw [if_pos c2, e]
        refine row_is (by show i ≤ rN R + 1; omega) (fun j hj => ?_) (Or.inr ?_)
        · show nu (rS R) (rN R) d j ≠ x
          rw [nu_n (by omega)]
          exact h2 j hj
        · show nu (rS R) (rN R) d i = x
          rw [nu_n (by omega), ← e]
          exact row_at c2
      · rw [if_neg c2]
        refine row_is (Nat.le_refl _) (fun j hj => ?_) (Or.inl rfl)
        show nu (rS R) (rN R) d j ≠ x
        by_cases c3 : j = rN R
        · rw [c3, nu_s]; exact fun z => c z.symm
        · rw [nu_n c3]
          have hj2 : j < rN R + 1 := hj
          exact h2 j (by omega)
  refine ⟨e12, fun x hx => ?_, fun r hr => ?_, fun r hr => ?_, fun r j hr hj => ?_⟩
  · rw [e7, hrow x]
    by_cases c : x = d
    · rw [if_pos c, if_pos c, if_pos (show rN R < rN R + 1 from Nat.lt_succ_self _)]
    · rw [if_neg c, if_neg c, a2 x hx]
      by_cases c2 : row R x < rN R
      · rw [if_pos c2, if_pos c2, if_pos (show row R x < rN R + 1 by omega)]
      · rw [if_neg c2, if_neg c2, if_neg (show ¬ rN R + 1 < rN R + 1 by omega)]
  · have hr : r < rN R + 1 := hr
    show Y1 8 r = nI (nu (rS R) (rN R) d r)
    rw [e8]
    by_cases c : r = rN R
    · rw [if_pos c, c, nu_s]
    · rw [if_neg c, nu_n c]; exact a3 r (by omega)
  · show Y1 9 r = if r < rN R + 1 then nI (nu (rZ R) (rN R) 0 r) else 0
    rw [e9, a4 r hr]
    by_cases c : r = rN R
    · rw [if_neg (by omega), if_pos (by omega), c, nu_s]; rfl
    · rw [nu_n c]
      by_cases c2 : r < rN R
      · rw [if_pos c2, if_pos (by omega)]
      · rw [if_neg c2, if_neg (by omega)]
  · have hr : r < rN R + 1 := hr
    have hj : j < nu (rZ R) (rN R) 0 r := hj
    show Y1 10 (32 * r + j) = nI (rM R r j)
    by_cases c : r = rN R
    · rw [c, nu_s] at hj; omega
    · rw [nu_n c] at hj
      rw [e10]; exact a5 r j (by omega) hj
theorem relR_push {S S1 : Nat → Int32} {Y Y1 : Nat → Nat → Int32} {R : mR} {r k : Nat} (h : RelR S Y R) (hr : r < rN R) (hz : rZ R r < 32) (hz2 : ∀ q, q < rN R → rZ R q ≤ 32) (e12 : S1 12 = S 12) (e7 : ∀ x, Y1 7 x = Y 7 x) (e8 : ∀ x, Y1 8 x = Y 8 x) (e9 : ∀ x, Y1 9 x = if x = r then nI (rZ R r + 1) else Y 9 x) (e10 : ∀ x, Y1 10 x = if x = 32 * r + rZ R r then nI k else Y 10 x) : RelR S1 Y1 (rowPush R r k) := by
  obtain ⟨a1, a2, a3, a4, a5⟩ := h
  have hrow : ∀ d, row (rowPush R r k) d = row R d := row_cong rfl (fun _ _ => rfl)
  refine ⟨e12.trans a1, fun x hx => ?_, fun q hq => ?_, fun q hq => ?_, fun q j hq hj => ?_⟩
  · rw [e7, hrow]; exact a2 x hx
  · rw [e8]; exact a3 q hq
  · show Y1 9 q = if q < rN R then nI (nu (rZ R) r (rZ R r + 1) q) else 0
    rw [e9]
    by_cases c : q = r
    · rw [if_pos c, if_pos (by omega), c, nu_s]
    · rw [if_neg c, nu_n c]; exact a4 q hq
  · have hq : q < rN R := hq
    have hj : j < nu (rZ R) r (rZ R r + 1) q := hj
    show Y1 10 (32 * q + j) = nI (nu (rM R) r (nu (rM R r) (rZ R r) k) q j)
    have z2 := hz2 q hq
    by_cases c : q = r
    · subst c
      rw [nu_s] at hj
      rw [e10, nu_s]
      by_cases c2 : j = rZ R q
      · rw [if_pos (by omega), c2, nu_s]
      · rw [if_neg (by omega), nu_n c2]; exact a5 q j hq (by omega)
    · rw [nu_n c] at hj
      rw [e10, nu_n c, if_neg (by omega)]
      exact a5 q j hq hj
theorem relR_del {S S1 : Nat → Int32} {Y Y1 : Nat → Nat → Int32} {R : mR} {r k : Nat} (h : RelR S Y R) (hr : r < rN R) (hk : k < 2 ^ 31) (hm : ∀ j, j < rZ R r → rM R r j < 2 ^ 31) (hz : 0 < rZ R r) (hz2 : ∀ q, q < rN R → rZ R q ≤ 32) (e12 : S1 12 = S 12) (e7 : ∀ x, Y1 7 x = Y 7 x) (e8 : ∀ x, Y1 8 x = Y 8 x) (e9 : ∀ x, Y1 9 x = if x = r then nI (rZ R r - 1) else Y 9 x) (e10 : ∀ x, Y1 10 x = if 32 * r ≤ x ∧ x < 32 * r + (rZ R r - 1) then (if Y 10 x = nI k then nI (rM R r (rZ R r - 1)) else Y 10 x) else Y 10 x) : RelR S1 Y1 (rowDel R r k) := by
  obtain ⟨a1, a2, a3, a4, a5⟩ := h
  have hrow : ∀ d, row (rowDel R r k) d = row R d := row_cong rfl (fun _ _ => rfl)
  refine ⟨e12.trans a1, fun x hx => ?_, fun q hq => ?_, fun q hq => ?_, fun q j hq hj => ?_⟩
  · rw [e7, hrow]; exact a2 x hx
  · rw [e8]; exact a3 q hq
  · show Y1 9 q = if q < rN R then nI (nu (rZ R) r (rZ R r - 1) q) else 0
    rw [e9]
    by_cases c : q = r
    · rw [if_pos c, if_pos (by omega), c, nu_s]
    · rw [if_neg c, nu_n c]; exact a4 q hq
  · have hq : q < rN R := hq
    have hj : j < nu (rZ R) r (rZ R r - 1) q := hj
    show Y1 10 (32 * q + j) = nI (nu (rM R) r (fun j => if rM R r j = k then rM R r (rZ R r - 1) else rM R r j) q j)
    have z2 := hz2 q hq
    have z3 := hz2 r hr
    by_cases c : q = r
    · subst c
      rw [nu_s] at hj
      rw [e10, nu_s, if_pos (by omega), a5 q j hq (by omega)]
      have hmj := hm j (by omega)
      show _ = nI (if rM R q j = k then rM R q (rZ R q - 1) else rM R q j)
      by_cases c2 : rM R q j = k
      · rw [if_pos c2, if_pos (by rw [c2])]
      · rw [if_neg c2, if_neg (fun e => c2 ((nI_eq hmj hk).mp e))]
    · rw [nu_n c] at hj
      rw [e10, nu_n c, if_neg (by omega)]
      exact a5 q j hq hj
