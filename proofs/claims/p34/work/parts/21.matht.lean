theorem st_at {Y9 : Nat → Nat → Int32} {jj i : Nat} {v : Int32} {F : Nat → Int32} (h : ∀ q4, q4 < i → Y9 jj q4 = F q4) (hv : v = F i) : ∀ q4, q4 < i + 1 → (up2 Y9 jj (upd (Y9 jj) i v)) jj q4 = F q4 := by
  intro q4 hq4
  show (if jj = jj then upd (Y9 jj) i v else Y9 jj) q4 = F q4
  rw [if_pos rfl]
  show (if q4 = i then v else Y9 jj q4) = F q4
  by_cases cq : q4 = i
  · rw [if_pos cq, cq]; exact hv
  · rw [if_neg cq]; exact h q4 (by omega)
theorem st_no {Y Y9 : Nat → Nat → Int32} {jj : Nat} {f : Nat → Int32} (h : ∀ j, j ≠ jj → Y9 j = Y j) : ∀ j, j ≠ jj → up2 Y9 jj f j = Y j := by
  intro j hj
  show (if j = jj then f else Y9 j) = Y j
  rw [if_neg hj]; exact h j hj
theorem rel_told {S S1 : Nat → Int32} {Y : Nat → Nat → Int32} {M : mSt} (h : Rel S Y M) (on : wOn (sW M) = true) (e0 : ∀ j, j ≠ 0 → j ≠ 20 → S1 j = S j) (e20 : S1 20 = nI (wTold (sW M) + 1)) : Rel S1 Y (wW M (true, (wN (sW M), wA (sW M), wTold (sW M) + 1), wC (sW M))) := by
  obtain ⟨a1, a2, a3, a4, a5, a6⟩ := h
  obtain ⟨b1, b2, b3, b4, b5⟩ := a5.2 on
  exact ⟨(e0 1 (by decide) (by decide)).trans a1, a2, a3.cong (e0 12 (by decide) (by decide)) (fun _ _ _ => rfl), a4.cong (e0 16 (by decide) (by decide)) (fun _ _ _ => rfl), ⟨((e0 17 (by decide) (by decide)).trans a5.1).trans (by rw [on]; rfl), fun _ => ⟨(e0 19 (by decide) (by decide)).trans b1, e20, (e0 25 (by decide) (by decide)).trans b3, b4, b5⟩⟩, a6.cong (e0 29 (by decide) (by decide)) (fun _ _ _ => rfl)⟩
theorem rel_defer {S S1 : Nat → Int32} {Y Y1 : Nat → Nat → Int32} {M : mSt} {c h k v : Int32} (hM : Rel S Y M) (on : wOn (sW M) = true) (e0 : ∀ j, j ≠ 0 → j ≠ 25 → S1 j = S j) (e25 : S1 25 = nI ((wC (sW M)).1 + 1)) (f15 : Y1 15 = upd (Y 15) (wC (sW M)).1 c) (f16 : Y1 16 = upd (Y 16) (wC (sW M)).1 h) (f17 : Y1 17 = upd (Y 17) (wC (sW M)).1 k) (f18 : Y1 18 = upd (Y 18) (wC (sW M)).1 v) (fy : ∀ j, j ≠ 15 → j ≠ 16 → j ≠ 17 → j ≠ 18 → Y1 j = Y j) : Rel S1 Y1 (wW M (true, (wN (sW M), wA (sW M), wTold (sW M)), cAdd (wC (sW M)) c h k v)) := by
  obtain ⟨a1, a2, a3, a4, a5, a6⟩ := hM
  obtain ⟨b1, b2, b3, b4, b5⟩ := a5.2 on
  refine ⟨(e0 1 (by decide) (by decide)).trans a1, a2.cong (fun j hj => fy j (by omega) (by omega) (by omega) (by omega)), a3.cong (e0 12 (by decide) (by decide)) (fun j h1 h2 => fy j (by omega) (by omega) (by omega) (by omega)), a4.cong (e0 16 (by decide) (by decide)) (fun j h1 h2 => fy j (by omega) (by omega) (by omega) (by omega)), ⟨((e0 17 (by decide) (by decide)).trans a5.1).trans (by rw [on]; rfl), fun _ => ⟨(e0 19 (by decide) (by decide)).trans b1, (e0 20 (by decide) (by decide)).trans b2, e25, fun i hi => ?_, fun i hi => ?_⟩⟩, a6.cong (e0 29 (by decide) (by decide)) (fun j h1 h2 => fy j (by omega) (by omega) (by omega) (by omega))⟩
  · rw [fy 14 (by decide) (by decide) (by decide) (by decide)]; exact b4 i hi
  · have hi : i < (wC (sW M)).1 + 1 := hi
    rw [f15, f16, f17, f18]
    show (if i = (wC (sW M)).1 then c else Y 15 i) = nu (wC (sW M)).2.1 (wC (sW M)).1 c i ∧ (if i = (wC (sW M)).1 then h else Y 16 i) = nu (wC (sW M)).2.2.1 (wC (sW M)).1 h i ∧ (if i = (wC (sW M)).1 then k else Y 17 i) = nu (wC (sW M)).2.2.2.1 (wC (sW M)).1 k i ∧ (if i = (wC (sW M)).1 then v else Y 18 i) = nu (wC (sW M)).2.2.2.2 (wC (sW M)).1 v i
    by_cases ci : i = (wC (sW M)).1
    · rw [if_pos ci, if_pos ci, if_pos ci, if_pos ci, ci, nu_s, nu_s, nu_s, nu_s]; exact ⟨rfl, rfl, rfl, rfl⟩
    · rw [if_neg ci, if_neg ci, if_neg ci, if_neg ci, nu_n ci, nu_n ci, nu_n ci, nu_n ci]; exact b5 i (by omega)
theorem cmd_ne : ∀ a, a < 4 → ∀ b, b < 4 → a ≠ b → ¬ nI a = nI b := by decide +kernel
section
variable {E : mE} {R : mR} {t h k v : Int32}
theorem doC_3a (h1 : free E = 32 ∨ isK k = false) : doC E R t (nI 3) h k v = (false, E, R) := (if_pos rfl).trans (if_pos h1)
theorem doC_3b {i : Nat} (hi : i < 6) (h1 : ¬ free E = 32) (h2 : isK (nI i) = true) : doC E R t (nI 3) h (nI i) v = (true, addsE (makesE E (free E)) (free E) i v t, addsR (makesE E (free E)) (rowAdd R 0 (free E)) (free E) i) := by
  refine (if_pos rfl).trans ((if_neg (fun z => by rcases z with z | z; exact h1 z; rw [h2] at z; cases z)).trans ?_)
  rw [ix_nI (by omega)]
theorem doC_n {w : Nat} (hw : w < 4) (h3 : ¬ w = 3) (hl : look E h = none) : doC E R t (nI w) h k v = (false, E, R) := by
  refine (if_neg (cmd_ne w hw 3 (by decide) h3)).trans ?_
  rw [hl]
theorem doC_2 {s : Nat} (hl : look E h = some s) : doC E R t (nI 2) h k v = (true, (ends E R s).1, (ends E R s).2.1) := by
  refine (if_neg (cmd_ne 2 (by decide) 3 (by decide) (by decide))).trans ?_
  rw [hl]; exact if_pos rfl
theorem doC_k {w s : Nat} (hw : w < 4) (h3 : ¬ w = 3) (h2 : ¬ w = 2) (hl : look E h = some s) (hk : isK k = false) : doC E R t (nI w) h k v = (false, E, R) := by
  refine (if_neg (cmd_ne w hw 3 (by decide) h3)).trans ?_
  rw [hl]; exact (if_neg (cmd_ne w hw 2 (by decide) h2)).trans (if_pos hk)
theorem doC_0 {s i : Nat} (hi : i < 6) (hl : look E h = some s) (hk : isK (nI i) = true) : doC E R t (nI 0) h (nI i) v = if bitS (mKd E s) i = true then (false, E, R) else (true, addsE E s i v t, addsR E R s i) := by
  refine (if_neg (cmd_ne 0 (by decide) 3 (by decide) (by decide))).trans ?_
  rw [hl, ix_nI (by omega)]; exact (if_neg (cmd_ne 0 (by decide) 2 (by decide) (by decide))).trans ((if_neg (by rw [hk]; decide)).trans (if_pos rfl))
theorem doC_1 {w s i : Nat} (hw : w < 4) (h3 : ¬ w = 3) (h2 : ¬ w = 2) (h0 : ¬ w = 0) (hi : i < 6) (hl : look E h = some s) (hk : isK (nI i) = true) : doC E R t (nI w) h (nI i) v = if bitS (mKd E s) i = false then (false, E, R) else (true, takesE E s i, takesR E R s i) := by
  refine (if_neg (cmd_ne w hw 3 (by decide) h3)).trans ?_
  rw [hl, ix_nI (by omega)]; exact (if_neg (cmd_ne w hw 2 (by decide) h2)).trans ((if_neg (by rw [hk]; decide)).trans (if_neg (cmd_ne w hw 0 (by decide) h0)))
end
theorem adds_inv {E : mE} {R : mR} (iE : InvE E) (iR : InvR E R) {s k : Nat} (hal : mAl E s = true) (hk : k < 6) (v t : Int32) : InvE (addsE E s k v t) ∧ InvR (addsE E s k v t) (addsR E R s k) := becomes_inv (put_invE iE s k v t) (put_invR iR s k v t) hal (bit_set (mKd E s) (iE.1 s) k hk).2
theorem takes_inv {E : mE} {R : mR} (iE : InvE E) (iR : InvR E R) {s k : Nat} (hal : mAl E s = true) (hk : k < 6) : InvE (takesE E s k) ∧ InvR (takesE E s k) (takesR E R s k) := becomes_inv iE iR hal (bit_clr (mKd E s) (iE.1 s) k hk).2
theorem free_lt {E : mE} (h : ¬ free E = 32) : free E < 32 ∧ mAl E (free E) = false := by
  obtain ⟨f, e1, e2, e3, e4⟩ := free_ex E
  rw [e1] at h ⊢
  rcases e4 with e4 | e4
  · exact absurd e4 h
  · exact ⟨by omega, e4⟩
theorem makes_al {E : mE} {s : Nat} : mAl (makesE E s) s = true := nu_s
def okC (b : Nat) (x : Bool × mE × mR) : Prop := InvE x.2.1 ∧ InvR x.2.1 x.2.2 ∧ ∀ j, mHad x.2.1 j ≤ b
theorem doC_inv {E : mE} {R : mR} (iE : InvE E) (iR : InvR E R) {b : Nat} (hh : ∀ k, mHad E k ≤ b) (t c h k v : Int32) : okC (b + 40) (doC E R t c h k v) := by
  have h1 : ∀ j, mHad E j ≤ b + 40 := fun j => Nat.le_trans (hh j) (Nat.le_add_right _ _)
  have h0 : okC (b + 40) (false, E, R) := ⟨iE, iR, h1⟩
  have nf : ∀ x : Bool, ¬ x = false → x = true := fun x z => by
    cases x with
    | true => rfl
    | false => exact absurd rfl z
  unfold doC
  by_cases c3 : c = nI 3
  · rw [if_pos c3]
    by_cases q1 : free E = 32 ∨ isK k = false
    · rw [if_pos q1]; exact h0
    · rw [if_neg q1]
      obtain ⟨i, hi, rfl⟩ := isK_of (nf _ (fun z => q1 (Or.inr z)))
      obtain ⟨f1, f2⟩ := free_lt (fun z => q1 (Or.inl z))
      obtain ⟨g1, g2⟩ := makes_inv iE iR f2 f1
      obtain ⟨g3, g4⟩ := adds_inv g1 g2 makes_al hi v t
      rw [ix_nI (by omega)]
      exact ⟨g3, g4, h1⟩
  · rw [if_neg c3]
    cases hl : look E h with
    | none => exact h0
    | some s =>
      obtain ⟨hs, hal, -⟩ := look_some hl
      dsimp only
      by_cases c2 : c = nI 2
      · rw [if_pos c2]
        obtain ⟨g1, g2, g3, -⟩ := ends_inv iE iR hal
        exact ⟨g1, g2, fun j => Nat.le_trans (g3 j) (Nat.add_le_add_right (hh j) 40)⟩
      · rw [if_neg c2]
        by_cases q2 : isK k = false
        · rw [if_pos q2]; exact h0
        · rw [if_neg q2]
          obtain ⟨i, hi, rfl⟩ := isK_of (nf _ q2)
          rw [ix_nI (by omega)]
          by_cases c0 : c = nI 0
          · rw [if_pos c0]
            by_cases q5 : bitS (mKd E s) i = true
            · rw [if_pos q5]; exact h0
            · rw [if_neg q5]; obtain ⟨g3, g4⟩ := adds_inv iE iR hal hi v t; exact ⟨g3, g4, h1⟩
          · rw [if_neg c0]
            by_cases q5 : bitS (mKd E s) i = false
            · rw [if_pos q5]; exact h0
            · rw [if_neg q5]; obtain ⟨g3, g4⟩ := takes_inv iE iR hal hi; exact ⟨g3, g4, h1⟩
theorem doN_t {E : mE} {R : mR} {C : mC} {t : Int32} {n : Nat} (h : (doC (doN E R C t n).2.1 (doN E R C t n).2.2 t (C.2.1 n) (C.2.2.1 n) (C.2.2.2.1 n) (C.2.2.2.2 n)).1 = true) : (doN E R C t (n + 1)).1 = (doN E R C t n).1 + 1 := by
  show (doN E R C t n).1 + (if _ then 1 else 0) = _
  rw [if_pos h]
theorem doN_f {E : mE} {R : mR} {C : mC} {t : Int32} {n : Nat} (h : (doC (doN E R C t n).2.1 (doN E R C t n).2.2 t (C.2.1 n) (C.2.2.1 n) (C.2.2.2.1 n) (C.2.2.2.2 n)).1 = false) : (doN E R C t (n + 1)).1 = (doN E R C t n).1 := by
  show (doN E R C t n).1 + (if _ then 1 else 0) = _
  rw [if_neg (by rw [h]; decide)]; rfl
theorem doN_le {E : mE} {R : mR} {C : mC} {t : Int32} : ∀ n, (doN E R C t n).1 ≤ n := by
  intro n
  induction n with
  | zero => exact Nat.le_refl _
  | succ n ih =>
    show (doN E R C t n).1 + (if _ then 1 else 0) ≤ _
    split <;> omega
