/-! how the law runs systems -/
def LYs (Y : Nat → Nat → Int32) (Z : mQ) : Prop := Y 9 3 = nI Z.1 ∧ ∀ i, i < Z.1 → Y 6 (3 * i) = nI (Z.2.1 i) ∧ Y 6 (3 * i + 1) = nI (Z.2.2.1 i) ∧ Y 6 (3 * i + 2) = nI (Z.2.2.2 i)
theorem bit_val : ∀ d, d < 64 → ∀ j, j < 6 → (nI d >>> (nI j &&& 31)) &&& nI 1 = bI (bitS d j) := by decide +kernel
theorem sysT_F {E : mE} {rd wr : Nat} {t : Int32} {p : Nat → Bool} {i : Nat} (hp : p i = false) : sysT E rd wr t p (i + 1) = sysT E rd wr t p i := by
  have h : (fun k => decide (k < i + 1) && p k) = fun k => decide (k < i) && p k := by
    funext k
    by_cases c : k = i
    · rw [c, hp, Bool.and_false, Bool.and_false]
    · rw [show decide (k < i + 1) = decide (k < i) from decide_eq_decide.mpr (by omega)]
  unfold sysT
  rw [h]
theorem sysT_10 {E : mE} {rd wr : Nat} {t : Int32} {p : Nat → Bool} (hp : ∀ k, p k = true → k < 10) : sysT E rd wr t p 10 = sysE E rd wr t p := by
  have h : (fun k => decide (k < 10) && p k) = p := by
    funext k
    cases c : p k with
    | false => exact Bool.and_false _
    | true => rw [decide_eq_true (hp k c)]; rfl
  unfold sysT
  rw [h]
theorem sum_st {rd j : Nat} {f : Nat → Int32} : sumK rd f j + bI (bitS rd j) * f j = sumK rd f (j + 1) := by
  cases h : bitS rd j with
  | false => rw [sumK_f h, show bI false = 0 from rfl, Int32.zero_mul, Int32.add_zero]
  | true => rw [sumK_t h, show bI true = 1 from rfl, Int32.one_mul]
theorem stgs_all {Z : mQ} : ∀ n k, k < n → Z.2.2.2 k < stgs Z n := by
  intro n
  induction n with
  | zero => intro k h; exact absurd h (Nat.not_lt_zero k)
  | succ n ih =>
    intro k h
    show _ < if stgs Z n < Z.2.2.2 n + 1 then Z.2.2.2 n + 1 else stgs Z n
    by_cases c : k = n
    · rw [c]; split <;> omega
    · have := ih k (by omega)
      split <;> omega
theorem runK_no {Z : mQ} {t : Int32} {sg : Nat} {E : mE} : ∀ n, (∀ k, k < n → Z.2.2.2 k ≠ sg) → runK Z t sg E n = (E, 0) := by
  intro n
  induction n with
  | zero => intro _; rfl
  | succ n ih => intro h; rw [runK_f (h n (Nat.lt_succ_self n))]; exact ih (fun k hk => h k (by omega))
/-- stages past the last one hold no system -/
theorem runS_past {Z : mQ} {t : Int32} {E : mE} : ∀ m, stgs Z Z.1 ≤ m → runS Z t E m = runS Z t E (stgs Z Z.1) := by
  intro m
  induction m with
  | zero => intro h; rw [Nat.le_zero.mp h]
  | succ m ih =>
    intro h
    by_cases c : stgs Z Z.1 ≤ m
    · have e : runS Z t E (m + 1) = ((runK Z t m (runS Z t E m).1 Z.1).1, (runS Z t E m).2 + (runK Z t m (runS Z t E m).1 Z.1).2) := rfl
      rw [e, runK_no Z.1 (fun k hk => by have := stgs_all (Z := Z) Z.1 k hk; omega), ih c]
      show ((runS Z t E (stgs Z Z.1)).1, (runS Z t E (stgs Z Z.1)).2 + 0) = _
      rw [Int32.add_zero]
    · rw [show m + 1 = stgs Z Z.1 by omega]
theorem LE.same {Y Y1 : Nat → Nat → Int32} {E : mE} (h : LE Y E) (e1 : Y1 1 = Y 1) (e2 : Y1 2 = Y 2) (e3 : Y1 3 = Y 3) : LE Y1 E := h.cong (fun k _ => by rw [e1]; exact ⟨rfl, rfl, rfl, rfl⟩) e2 e3
