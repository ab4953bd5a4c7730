/-! every call keeps what holds of every store -/
theorem InvE.cong {E E1 : mE} (h : InvE E) (e1 : mAl E1 = mAl E) (e2 : mKd E1 = mKd E) (e3 : mPar E1 = mPar E) : InvE E1 := by
  unfold InvE; rw [e1, e2, e3]; exact h
theorem InvR.cong {E E1 : mE} {R : mR} (h : InvR E R) (e1 : mAl E1 = mAl E) (e2 : mKd E1 = mKd E) : InvR E1 R := by
  unfold InvR; rw [e1, e2]; exact h
theorem Inv.mono {b b1 : Nat} {M : mSt} (h : Inv b M) (h1 : b ≤ b1) (h2 : b1 ≤ 900000) : Inv b1 M := ⟨h.1, h.2.1, h.2.2.1, h.2.2.2.1, h.2.2.2.2.1, h2, fun k => Nat.le_trans (h.2.2.2.2.2.2 k) h1⟩
theorem Inv.er {b b1 : Nat} {M : mSt} (h : Inv b M) {E1 : mE} {R1 : mR} (iE : InvE E1) (iR : InvR E1 R1) (hh : ∀ k, mHad E1 k ≤ b1) (h2 : b1 ≤ 900000) : Inv b1 (wER M E1 R1) := ⟨iE, iR, h.2.2.1, h.2.2.2.1, h.2.2.2.2.1, h2, hh⟩
theorem Inv.e {b : Nat} {M : mSt} (h : Inv b M) {E1 : mE} (iE : InvE E1) (e1 : mAl E1 = mAl (sE M)) (e2 : mKd E1 = mKd (sE M)) (hh : ∀ k, mHad E1 k ≤ b) : Inv b (wE M E1) := ⟨iE, InvR.cong (E1 := E1) h.2.1 e1 e2, h.2.2.1, h.2.2.2.1, h.2.2.2.2.1, h.2.2.2.2.2.1, hh⟩
theorem anc_s {E : mE} {n a : Nat} : anc E (n + 1) a = (mPar E a).bind (anc E n) := by
  induction n with
  | zero =>
    show mPar E a = (mPar E a).bind (fun x => some x)
    cases mPar E a <;> rfl
  | succ n ih =>
    show (anc E (n + 1) a).bind (mPar E) = _
    rw [ih]
    cases mPar E a <;> rfl
theorem goes_par {E : mE} {k j b : Nat} (hp : mPar E k = some j) (hk : k ≠ b) : goes E k b ↔ goes E j b := by
  constructor
  · rintro ⟨n, hn⟩
    cases n with
    | zero => exact absurd (Option.some.inj hn) hk
    | succ n => rw [anc_s, hp] at hn; exact ⟨n, hn⟩
  · rintro ⟨n, hn⟩
    exact ⟨n + 1, by rw [anc_s, hp]; exact hn⟩
theorem adopt_inv {E : mE} (h : InvE E) {sl : Nat} {o : Option Nat} (hal : mAl E sl = true) (ho : ∀ j, o = some j → mAl E j = true ∧ ¬ goes E j sl) : InvE (mAl E, mHad E, mKd E, nu (mPar E) sl o, mVal E, mMk E) := by
  obtain ⟨h1, h2, h3, h4, dp, h5⟩ := h
  refine ⟨h1, h2, fun k hk => ⟨(h3 k hk).1, ?_⟩, fun k j hj => ?_, ?_⟩
  · show nu (mPar E) sl o k = none
    rw [nu_n (fun e => by have hk : mAl E k = false := hk; rw [e, hal] at hk; cases hk)]; exact (h3 k hk).2
  · have hj : nu (mPar E) sl o k = some j := hj
    by_cases c : k = sl
    · rw [c, nu_s] at hj; exact (ho j hj).1
    · rw [nu_n c] at hj; exact h4 k j hj
  · cases o with
    | none =>
      refine ⟨dp, fun k j hj => ?_⟩
      have hj : nu (mPar E) sl none k = some j := hj
      by_cases c : k = sl
      · rw [c, nu_s] at hj; cases hj
      · rw [nu_n c] at hj; exact h5 k j hj
    | some q =>
      obtain ⟨q1, q2⟩ := ho q rfl
      refine ⟨fun k => @ite _ (goes E k sl) (Classical.propDecidable _) (dp k + (dp q + 1)) (dp k), fun k j hj => ?_⟩
      have hj : nu (mPar E) sl (some q) k = some j := hj
      show @ite _ (goes E j sl) (Classical.propDecidable _) (dp j + (dp q + 1)) (dp j) < @ite _ (goes E k sl) (Classical.propDecidable _) (dp k + (dp q + 1)) (dp k)
      by_cases c : k = sl
      · rw [c, nu_s] at hj
        obtain rfl := Option.some.inj hj
        rw [if_neg q2, c, if_pos ⟨0, rfl⟩]
        omega
      · rw [nu_n c] at hj
        have := h5 k j hj
        by_cases d : goes E j sl
        · rw [if_pos d, if_pos ((goes_par hj c).mpr d)]; omega
        · rw [if_neg d, if_neg (fun z => d ((goes_par hj c).mp z))]; exact this
theorem i_err {b : Nat} {M : mSt} (h : Inv b M) {c : Nat} : Inv b (oErr M c).2.2 := h
theorem i_ret {b : Nat} {M : mSt} (h : Inv b M) {v : Int32} : Inv b (oRet M v).2.2 := h
theorem i_make {b : Nat} {M : mSt} (h : Inv b M) : Inv b (oMake M).2.2 := by
  unfold oMake
  split
  · exact h
  · next hn =>
    obtain ⟨f1, f2⟩ := free_lt (fun z => hn (Or.inl z))
    obtain ⟨g1, g2⟩ := makes_inv h.1 h.2.1 f2 f1
    exact h.er g1 g2 h.2.2.2.2.2.2 h.2.2.2.2.2.1
theorem i_end {b : Nat} {M : mSt} (h : Inv b M) (hb : b + 40 ≤ 900000) (x : Int32) : Inv (b + 40) (oEnd M x).2.2 := by
  have h9 : Inv (b + 40) M := h.mono (Nat.le_add_right _ _) hb
  unfold oEnd
  cases hl : look (sE M) x with
  | none => exact h9
  | some sl =>
    dsimp only
    split
    · exact h9
    · obtain ⟨-, hal, -⟩ := look_some hl
      obtain ⟨g1, g2, g3, -⟩ := ends_inv h.1 h.2.1 hal
      exact h.er g1 g2 (fun j => Nat.le_trans (g3 j) (Nat.add_le_add_right (h.2.2.2.2.2.2 j) 40)) hb
theorem i_adopt {b : Nat} {M : mSt} (h : Inv b M) (x y : Int32) : Inv b (oAdopt M x y).2.2 := by
  unfold oAdopt
  cases hl : look (sE M) x with
  | none => exact h
  | some sl =>
    dsimp only
    split
    · exact h
    · split
      · exact h
      · next hg =>
        split
        · exact h
        · obtain ⟨-, hal, -⟩ := look_some hl
          refine h.e (adopt_inv h.1 hal (fun j hj => ?_)) rfl rfl h.2.2.2.2.2.2
          have hj2 : look (sE M) y = some j := by
            unfold lookO at hj
            split at hj
            · cases hj
            · exact hj
          exact ⟨(look_some hj2).2.1, fun z => hg ⟨j, hj, @decide_eq_true _ (Classical.propDecidable _) z⟩⟩
theorem i_entities {b : Nat} {M : mSt} (h : Inv b M) : Inv b (oEntities M).2.2 := h
theorem i_isThere {b : Nat} {M : mSt} (h : Inv b M) (x : Int32) : Inv b (oIsThere M x).2.2 := h
theorem i_children {b : Nat} {M : mSt} (h : Inv b M) (x : Int32) : Inv b (oChildren M x).2.2 := by
  unfold oChildren
  cases look (sE M) x <;> exact h
theorem i_add {b : Nat} {M : mSt} (h : Inv b M) (x kd v : Int32) : Inv b (oAdd M x kd v).2.2 := by
  unfold oAdd
  cases hl : look (sE M) x with
  | none => exact h
  | some sl =>
    dsimp only
    split
    · exact h
    · next hk =>
      split
      · exact h
      · obtain ⟨-, hal, -⟩ := look_some hl
        have hk : isK kd = true := by
          cases q3 : isK kd with
          | true => rfl
          | false => exact absurd q3 hk
        obtain ⟨i, hi, rfl⟩ := isK_of hk
        rw [ix_nI (by omega)]
        obtain ⟨g1, g2⟩ := adds_inv h.1 h.2.1 hal hi v (sT M)
        exact h.er g1 g2 h.2.2.2.2.2.2 h.2.2.2.2.2.1
theorem ask_ok {b : Nat} {M : mSt} (h : Inv b M) {x kd : Int32} (hk : (ask M x kd).1 = 0) : (∃ sl i, ask M x kd = (0, sl, i) ∧ mAl (sE M) sl = true ∧ i < 6) := by
  unfold ask at hk ⊢
  cases hl : look (sE M) x with
  | none => rw [hl] at hk; cases hk
  | some sl =>
    rw [hl] at hk
    dsimp only at hk ⊢
    by_cases c1 : isK kd = false
    · rw [if_pos c1] at hk; cases hk
    · rw [if_neg c1] at hk ⊢
      have c2 : isK kd = true := by
        cases q3 : isK kd with
        | true => rfl
        | false => exact absurd q3 c1
      obtain ⟨i, hi, rfl⟩ := isK_of c2
      rw [ix_nI (by omega)] at hk ⊢
      by_cases c3 : bitS (mKd (sE M) sl) i = false
      · rw [if_pos c3] at hk; cases hk
      · rw [if_neg c3]
        exact ⟨sl, i, rfl, (look_some hl).2.1, hi⟩
theorem i_take {b : Nat} {M : mSt} (h : Inv b M) (x kd : Int32) : Inv b (oTake M x kd).2.2 := by
  unfold oTake
  split
  · exact h
  · next hk =>
    split
    · exact h
    · obtain ⟨sl, i, e, hal, hi⟩ := ask_ok h (Decidable.not_not.mp hk)
      rw [e]
      obtain ⟨g1, g2⟩ := takes_inv h.1 h.2.1 hal hi
      exact h.er g1 g2 h.2.2.2.2.2.2 h.2.2.2.2.2.1
theorem i_set {b : Nat} {M : mSt} (h : Inv b M) (x kd v : Int32) : Inv b (oSet M x kd v).2.2 := by
  unfold oSet
  split
  · exact h
  · exact h.e (put_invE h.1 _ _ v (sT M)) rfl rfl h.2.2.2.2.2.2
theorem i_value {b : Nat} {M : mSt} (h : Inv b M) (x kd : Int32) : Inv b (oValue M x kd).2.2 := by unfold oValue; split <;> exact h
theorem i_mark {b : Nat} {M : mSt} (h : Inv b M) (x kd : Int32) : Inv b (oMark M x kd).2.2 := by unfold oMark; split <;> exact h
theorem i_kinds {b : Nat} {M : mSt} (h : Inv b M) (x : Int32) : Inv b (oKinds M x).2.2 := by
  unfold oKinds
  cases look (sE M) x <;> exact h
theorem i_rows {b : Nat} {M : mSt} (h : Inv b M) : Inv b (oRows M).2.2 := h
theorem i_setOf {b : Nat} {M : mSt} (h : Inv b M) (x : Int32) : Inv b (oSetOf M x).2.2 := by unfold oSetOf; split <;> exact h
theorem i_size {b : Nat} {M : mSt} (h : Inv b M) (x : Int32) : Inv b (oSize M x).2.2 := by unfold oSize; split <;> exact h
theorem i_entityAt {b : Nat} {M : mSt} (h : Inv b M) (x y : Int32) : Inv b (oEntityAt M x y).2.2 := by unfold oEntityAt; split <;> exact h
theorem i_question {b : Nat} {M : mSt} (h : Inv b M) (x y z : Int32) : Inv b (oQuestion M x y z).2.2 := by
  unfold oQuestion
  split
  · exact h
  · next hs =>
    split
    · exact h
    · next hn =>
      obtain ⟨i1, i2, i3, i4, i5, i6, i7⟩ := h
      have nf : ∀ q : Bool, ¬ q = false → q = true := fun q w => by
        cases q with
        | true => rfl
        | false => exact absurd rfl w
      obtain ⟨kx, hkx, rfl⟩ := isS_of (nf _ (fun w => hs (Or.inl w)))
      obtain ⟨ky, hky, rfl⟩ := isS_of (nf _ (fun w => hs (Or.inr (Or.inl w))))
      obtain ⟨kz, hkz, rfl⟩ := isS_of (nf _ (fun w => hs (Or.inr (Or.inr w))))
      refine ⟨i1, i2, ⟨Nat.lt_of_le_of_ne i3.1 hn, fun i hi => ?_⟩, i4, i5, i6, i7⟩
      have hi : i < (sQ M).1 + 1 := hi
      rw [ix_nI (by omega), ix_nI (by omega), ix_nI (by omega)]
      show nu (sQ M).2.1 (sQ M).1 kx i < 64 ∧ nu (sQ M).2.2.1 (sQ M).1 ky i < 64 ∧ nu (sQ M).2.2.2 (sQ M).1 kz i < 64
      by_cases c : i = (sQ M).1
      · rw [c, nu_s, nu_s, nu_s]; exact ⟨hkx, hky, hkz⟩
      · rw [nu_n c, nu_n c, nu_n c]; exact i3.2 i (by omega)
theorem i_answers {b : Nat} {M : mSt} (h : Inv b M) (x : Int32) : Inv b (oAnswers M x).2.2 := by unfold oAnswers; split <;> exact h
theorem i_oneByOne {b : Nat} {M : mSt} (h : Inv b M) (x : Int32) : Inv b (oOneByOne M x).2.2 := by unfold oOneByOne; split <;> exact h
theorem i_answer {b : Nat} {M : mSt} (h : Inv b M) (x y : Int32) : Inv b (oAnswer M x y).2.2 := by unfold oAnswer; split <;> exact h
theorem i_ansRows {b : Nat} {M : mSt} (h : Inv b M) (x : Int32) : Inv b (oAnsRows M x).2.2 := by unfold oAnsRows; split <;> exact h
theorem i_changed {b : Nat} {M : mSt} (h : Inv b M) (x t : Int32) : Inv b (oChanged M x t).2.2 := by unfold oChanged; split <;> exact h
theorem i_walk {b : Nat} {M : mSt} (h : Inv b M) (x : Int32) : Inv b (oWalk M x).2.2 := by
  unfold oWalk
  split
  · exact h
  · split
    · exact h
    · obtain ⟨i1, i2, i3, i4, i5, i6, i7⟩ := h
      refine ⟨i1, i2, i3, fun _ => ⟨aN_le i1 i2 _, Nat.zero_le _, Nat.zero_le _, fun i hi => ?_, fun i hi => absurd hi (Nat.not_lt_zero i)⟩, i5, i6, i7⟩
      have hi : i < aN (sQ M) (sR M) (ix x) := hi
      obtain ⟨k, e, hal, -⟩ := aP_al (Q := sQ M) i2 hi
      show (aP (sQ M) (sR M) (ix x) i).getD 0 < 32
      rw [e]; exact i1.2.1 k hal
theorem i_next {b : Nat} {M : mSt} (h : Inv b M) : Inv b (oNext M).2.2 := by
  unfold oNext
  split
  · exact h
  · next hw =>
    split
    · exact h
    · next ht =>
      obtain ⟨i1, i2, i3, i4, i5, i6, i7⟩ := h
      have on : wOn (sW M) = true := by
        cases q : wOn (sW M) with
        | true => rfl
        | false => exact absurd q hw
      obtain ⟨w1, w2, w3, w4, w5⟩ := i4 on
      exact ⟨i1, i2, i3, fun _ => ⟨w1, Nat.lt_of_le_of_ne w2 ht, w3, w4, w5⟩, i5, i6, i7⟩
theorem i_defer {b : Nat} {M : mSt} (h : Inv b M) (c hd k v : Int32) : Inv b (oDefer M c hd k v).2.2 := by
  unfold oDefer
  split
  · exact h
  · next hc =>
    split
    · exact h
    · next hw =>
      obtain ⟨i1, i2, i3, i4, i5, i6, i7⟩ := h
      have on : wOn (sW M) = true := by
        cases q : wOn (sW M) with
        | true => rfl
        | false => exact absurd (Or.inl q) hw
      have hc2 : inB c 4 = true := by
        cases q : inB c 4 with
        | true => rfl
        | false => exact absurd q hc
      obtain ⟨w, hw4, rfl⟩ := inB_of (by decide) hc2
      obtain ⟨w1, w2, w3, w4, w5⟩ := i4 on
      refine ⟨i1, i2, i3, fun _ => ⟨w1, w2, Nat.lt_of_le_of_ne w3 (fun z => hw (Or.inr z)), w4, fun i hi => ?_⟩, i5, i6, i7⟩
      have hi : i < (wC (sW M)).1 + 1 := hi
      show ∃ w0 : Nat, w0 < 4 ∧ nu (wC (sW M)).2.1 (wC (sW M)).1 (nI w) i = nI w0
      by_cases ci : i = (wC (sW M)).1
      · exact ⟨w, hw4, by rw [ci, nu_s]⟩
      · rw [nu_n ci]; exact w5 i (by omega)
theorem doN_inv {b : Nat} {M : mSt} (h : Inv b M) (C : mC) : ∀ n, InvE (doN (sE M) (sR M) C (sT M) n).2.1 ∧ InvR (doN (sE M) (sR M) C (sT M) n).2.1 (doN (sE M) (sR M) C (sT M) n).2.2 ∧ ∀ j, mHad (doN (sE M) (sR M) C (sT M) n).2.1 j ≤ b + 40 * n := by
  intro n
  induction n with
  | zero => exact ⟨h.1, h.2.1, h.2.2.2.2.2.2⟩
  | succ n ih => exact doC_inv ih.1 ih.2.1 ih.2.2 _ _ _ _ _
theorem i_finish {b : Nat} {M : mSt} (h : Inv b M) (hb : b + 800 ≤ 900000) : Inv (b + 800) (oFinish M).2.2 := by
  unfold oFinish
  split
  · exact h.mono (Nat.le_add_right _ _) hb
  · next hw =>
    have on : wOn (sW M) = true := by
      cases q : wOn (sW M) with
      | true => rfl
      | false => exact absurd q hw
    obtain ⟨d1, d2, d3⟩ := doN_inv h (wC (sW M)) (wC (sW M)).1
    have := (h.2.2.2.1 on).2.2.1
    exact ⟨d1, d2, h.2.2.1, fun z => (nomatch (show false = true from z)), h.2.2.2.2.1, hb, fun j => Nat.le_trans (d3 j) (by omega)⟩
theorem i_system {b : Nat} {M : mSt} (h : Inv b M) (x y : Int32) : Inv b (oSystem M x y).2.2 := by
  unfold oSystem
  split
  · exact h
  · next hs =>
    split
    · exact h
    · next hn =>
      obtain ⟨i1, i2, i3, i4, i5, i6, i7⟩ := h
      have nf : ∀ q : Bool, ¬ q = false → q = true := fun q w => by
        cases q with
        | true => rfl
        | false => exact absurd rfl w
      obtain ⟨kx, hkx, rfl⟩ := isS_of (nf _ (fun w => hs (Or.inl w)))
      obtain ⟨ky, hky, rfl⟩ := isS_of (nf _ (fun w => hs (Or.inr w)))
      refine ⟨i1, i2, i3, i4, ⟨Nat.lt_of_le_of_ne i5.1 hn, fun i hi => ?_⟩, i6, i7⟩
      have hi : i < (sY M).1 + 1 := hi
      rw [ix_nI (by omega), ix_nI (by omega)]
      show nu (sY M).2.1 (sY M).1 kx i < 64 ∧ nu (sY M).2.2.1 (sY M).1 ky i < 64 ∧ nu (sY M).2.2.2 (sY M).1 (stgTo (sY M) kx ky (sY M).1) i ≤ i
      by_cases c : i = (sY M).1
      · rw [c, nu_s, nu_s, nu_s]; exact ⟨hkx, hky, stgTo_le i5 _ (Nat.le_refl _)⟩
      · rw [nu_n c, nu_n c, nu_n c]; exact i5.2 i (by omega)
theorem i_stage {b : Nat} {M : mSt} (h : Inv b M) (x : Int32) : Inv b (oStage M x).2.2 := by unfold oStage; split <;> exact h
theorem i_stages {b : Nat} {M : mSt} (h : Inv b M) : Inv b (oStages M).2.2 := h
theorem i_run {b : Nat} {M : mSt} (h : Inv b M) : Inv b (oRun M).2.2 := by
  unfold oRun
  split
  · exact h
  · next hw =>
    obtain ⟨i1, i2, i3, i4, i5, i6, i7⟩ := h
    obtain ⟨a1, a2, a3, a4⟩ := @runS_al (sY M) (sT M + 1) (sE M) (stgs (sY M) (sY M).1)
    exact ⟨i1.cong a1 a3 a4, i2.cong a1 a3, i3, i4, i5, i6, fun k => by show mHad _ k ≤ b; rw [a2]; exact i7 k⟩
theorem i_tick {b : Nat} {M : mSt} (h : Inv b M) : Inv b (oTick M).2.2 := h
theorem inv0 : Inv 0 mSt0 := ⟨⟨fun _ => (by decide : 0 < 64), fun _ z => (nomatch z), fun _ _ => ⟨rfl, rfl⟩, fun _ _ z => (nomatch z), ⟨fun _ => 0, fun _ _ z => (nomatch z)⟩⟩, ⟨fun r hr => absurd hr (Nat.not_lt_zero r), fun r q hr => absurd hr (Nat.not_lt_zero r), fun r j hr => absurd hr (Nat.not_lt_zero r), fun r i j hr => absurd hr (Nat.not_lt_zero r), fun k z => (nomatch z), by decide, fun r hr => absurd hr (Nat.not_lt_zero r)⟩, ⟨by decide, fun i hi => absurd hi (Nat.not_lt_zero i)⟩, fun z => (nomatch z), ⟨by decide, fun i hi => absurd hi (Nat.not_lt_zero i)⟩, by decide, fun _ => Nat.le_refl _⟩
