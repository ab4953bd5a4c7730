theorem Rel.cong0 {S S1 : Nat → Int32} {Y : Nat → Nat → Int32} {M : mSt} (h : Rel S Y M) (e : ∀ j, j ≠ 0 → S1 j = S j) : Rel S1 Y M := by
  obtain ⟨a1, a2, a3, a4, a5, a6⟩ := h
  exact ⟨(e 1 (by decide)).trans a1, a2, a3.cong (e 12 (by decide)) (fun _ _ _ => rfl), a4.cong (e 16 (by decide)) (fun _ _ _ => rfl), a5.cong (fun j h1 _ => e j (by omega)) (fun _ _ _ => rfl) (fun _ _ _ => rfl), a6.cong (e 29 (by decide)) (fun _ _ _ => rfl)⟩
theorem add0 (x : Int32) : x + nI 0 = x := Int32.add_zero x
theorem aTo_t {Q : mQ} {R : mR} {q r : Nat} (h : ansQ Q q (rS R r) = true) : aTo Q R q (r + 1) = aTo Q R q r + rZ R r := by
  show aTo Q R q r + (if ansQ Q q (rS R r) = true then rZ R r else 0) = _
  rw [if_pos h]
theorem aTo_f {Q : mQ} {R : mR} {q r : Nat} (h : ansQ Q q (rS R r) = false) : aTo Q R q (r + 1) = aTo Q R q r := by
  show aTo Q R q r + (if ansQ Q q (rS R r) = true then rZ R r else 0) = _
  rw [if_neg (by rw [h]; decide)]; rfl
theorem aTo_mono {Q : mQ} {R : mR} {q r : Nat} : aTo Q R q r ≤ aTo Q R q (r + 1) := Nat.le_add_right _ _
theorem aTo_le {Q : mQ} {R : mR} (hk : okR R) {q : Nat} : ∀ r, r ≤ rN R → aTo Q R q r ≤ 32 * r := by
  intro r
  induction r with
  | zero => intro _; exact Nat.le_refl _
  | succ r ih =>
    intro hr
    have h1 := ih (by omega)
    have h2 := hk.z (show r < rN R by omega)
    cases c : ansQ Q q (rS R r) with
    | true => rw [aTo_t c]; omega
    | false => rw [aTo_f c]; omega
theorem aAt_hit {Q : mQ} {R : mR} {q p r : Nat} (h1 : aTo Q R q r ≤ p) (h2 : p < aTo Q R q (r + 1)) : aAt Q R q p (r + 1) = some (rM R r (p - aTo Q R q r)) := if_pos ⟨h1, h2⟩
theorem aAt_no {Q : mQ} {R : mR} {q p r : Nat} (h : p < aTo Q R q r ∨ aTo Q R q (r + 1) ≤ p) : aAt Q R q p (r + 1) = aAt Q R q p r := if_neg (fun z => by omega)
theorem aAt_lt {Q : mQ} {R : mR} {q p : Nat} : ∀ r, p < aTo Q R q r → ∃ i, i < r ∧ ansQ Q q (rS R i) = true ∧ aTo Q R q i ≤ p ∧ p - aTo Q R q i < rZ R i ∧ aAt Q R q p r = some (rM R i (p - aTo Q R q i)) := by
  intro r
  induction r with
  | zero => intro h; exact absurd h (Nat.not_lt_zero _)
  | succ r ih =>
    intro h
    rcases Nat.lt_or_ge p (aTo Q R q r) with c | c
    · obtain ⟨i, a1, a2, a3, a4, a5⟩ := ih c
      exact ⟨i, by omega, a2, a3, a4, (aAt_no (Or.inl c)).trans a5⟩
    · refine ⟨r, Nat.lt_succ_self _, ?_, c, ?_, aAt_hit c h⟩
      · cases c2 : ansQ Q q (rS R r) with
        | true => rfl
        | false => rw [aTo_f c2] at h; omega
      · cases c2 : ansQ Q q (rS R r) with
        | true => rw [aTo_t c2] at h; omega
        | false => rw [aTo_f c2] at h; omega
theorem aAt_ge {Q : mQ} {R : mR} {q p : Nat} : ∀ r, aTo Q R q r ≤ p → aAt Q R q p r = none := by
  intro r
  induction r with
  | zero => intro _; rfl
  | succ r ih =>
    intro h
    have := @aTo_mono Q R q r
    rw [aAt_no (Or.inr h)]
    exact ih (by omega)
theorem aTo_le2 {Q : mQ} {R : mR} {q i r : Nat} (h : i ≤ r) : aTo Q R q i ≤ aTo Q R q r := by
  induction r with
  | zero => rw [Nat.le_zero.mp h]; exact Nat.le_refl _
  | succ r ih =>
    rcases Nat.lt_or_ge r i with c | c
    · rw [show i = r + 1 by omega]; exact Nat.le_refl _
    · exact Nat.le_trans (ih c) aTo_mono
theorem aN_le {E : mE} {Q : mQ} {R : mR} (iE : InvE E) (iR : InvR E R) (q : Nat) : aN Q R q ≤ 32 := by
  refine holes 32 (aN Q R q) (fun p => (aP Q R q p).getD 0) (fun p hp => ?_) (fun p1 p2 h12 hp2 => ?_)
  · obtain ⟨i, a1, a2, a3, a4, a5⟩ := aAt_lt (rN R) hp
    show ((aAt Q R q p (rN R))).getD 0 < 32
    rw [a5]
    exact (iR.ok iE).2.2.1 i _ a1 a4
  · obtain ⟨i, a1, a2, a3, a4, a5⟩ := aAt_lt (rN R) (show p1 < aTo Q R q (rN R) by have : p2 < aTo Q R q (rN R) := hp2; omega)
    obtain ⟨j, b1, b2, b3, b4, b5⟩ := aAt_lt (rN R) hp2
    show ((aAt Q R q p1 (rN R))).getD 0 ≠ ((aAt Q R q p2 (rN R))).getD 0
    rw [a5, b5]
    show rM R i _ ≠ rM R j _
    intro e
    have e1 := (iR.2.2.1 i _ a1 a4).2
    have e2 := (iR.2.2.1 j _ b1 b4).2
    rw [e] at e1
    have hij := iR.2.1 i j a1 b1 (e1.symm.trans e2)
    subst hij
    have := iR.2.2.2.1 i _ _ a1 a4 b4 e
    omega
theorem aP_al {E : mE} {Q : mQ} {R : mR} (iR : InvR E R) {q p : Nat} (h : p < aN Q R q) : ∃ k, aP Q R q p = some k ∧ mAl E k = true ∧ ansQ Q q (mKd E k) = true := by
  obtain ⟨i, a1, a2, a3, a4, a5⟩ := aAt_lt (rN R) h
  have := iR.2.2.1 i _ a1 a4
  exact ⟨_, a5, this.1, by rw [this.2]; exact a2⟩
theorem relW_walk {S S1 : Nat → Int32} {Y Y1 : Nat → Nat → Int32} {M : mSt} {n : Nat} {f : Nat → Nat} (h : Rel S Y M) (e0 : ∀ j, j ≠ 0 → j ≠ 17 → j ≠ 19 → j ≠ 20 → j ≠ 25 → S1 j = S j) (e17 : S1 17 = nI 1) (e19 : S1 19 = nI n) (e20 : S1 20 = nI 0) (e25 : S1 25 = nI 0) (fy : ∀ j, j ≠ 14 → Y1 j = Y j) (f14 : ∀ i, i < n → Y1 14 i = handle (sE M) (f i)) : Rel S1 Y1 (wW M (true, (n, f, 0), mC0)) := by
  obtain ⟨a1, a2, a3, a4, a5, a6⟩ := h
  exact ⟨(e0 1 (by decide) (by decide) (by decide) (by decide) (by decide)).trans a1, a2.cong (fun j hj => fy j (by omega)), a3.cong (e0 12 (by decide) (by decide) (by decide) (by decide) (by decide)) (fun j h1 h2 => fy j (by omega)), a4.cong (e0 16 (by decide) (by decide) (by decide) (by decide) (by decide)) (fun j h1 h2 => fy j (by omega)), ⟨e17, fun _ => ⟨e19, e20, e25, f14, fun i hi => absurd hi (Nat.not_lt_zero i)⟩⟩, a6.cong (e0 29 (by decide) (by decide) (by decide) (by decide) (by decide)) (fun j h1 h2 => fy j (by omega))⟩
