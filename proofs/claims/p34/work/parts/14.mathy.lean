theorem PM.err {D : va_G} {T : Nat → ClassId} {g : Nat} {M : mSt} {S : Nat → Int32} {Y : Nat → Nat → Int32} {H : Heap} {c : Nat} {r : Int32} (hc : 0 < c) (hR : RM D T g S Y H) (hM : Rel S Y M) (h0 : S 0 = nI c) : PM D T g (oErr M c) r H := ⟨S, Y, hR, hM, h0, fun z => absurd (show c = 0 from z) (by omega)⟩
theorem PM.ret {D : va_G} {T : Nat → ClassId} {g : Nat} {M : mSt} {S : Nat → Int32} {Y : Nat → Nat → Int32} {H : Heap} {v r : Int32} (hR : RM D T g S Y H) (hM : Rel S Y M) (h0 : S 0 = nI 0) (hr : r = v) : PM D T g (oRet M v) r H := ⟨S, Y, hR, hM, h0, fun _ => hr⟩
theorem PM.ok {D : va_G} {T : Nat → ClassId} {g : Nat} {M : mSt} {S : Nat → Int32} {Y : Nat → Nat → Int32} {H : Heap} {v r : Int32} (hR : RM D T g S Y H) (hM : Rel S Y M) (h0 : S 0 = nI 0) (hr : r = v) : PM D T g (0, v, M) r H := ⟨S, Y, hR, hM, h0, fun _ => hr⟩
theorem RelE.cong {Y Y1 : Nat → Nat → Int32} {E : mE} (h : RelE Y E) (e : ∀ j, j < 7 → Y1 j = Y j) : RelE Y1 E := by
  obtain ⟨a1, a2, a3, a4, a5, a6⟩ := h
  refine ⟨?_, ?_, ?_, ?_, ?_, ?_⟩
  · rw [e 1 (by decide)]; exact a1
  · rw [e 2 (by decide)]; exact a2
  · rw [e 3 (by decide)]; exact a3
  · rw [e 4 (by decide)]; exact a4
  · rw [e 5 (by decide)]; exact a5
  · rw [e 6 (by decide)]; exact a6
theorem RelR.cong {S S1 : Nat → Int32} {Y Y1 : Nat → Nat → Int32} {R : mR} (h : RelR S Y R) (es : S1 12 = S 12) (e : ∀ j, 7 ≤ j → j < 11 → Y1 j = Y j) : RelR S1 Y1 R := by
  unfold RelR
  rw [es, e 7 (by decide) (by decide), e 8 (by decide) (by decide), e 9 (by decide) (by decide), e 10 (by decide) (by decide)]
  exact h
theorem RelQ.cong {S S1 : Nat → Int32} {Y Y1 : Nat → Nat → Int32} {Q : mQ} (h : RelQ S Y Q) (es : S1 16 = S 16) (e : ∀ j, 11 ≤ j → j < 14 → Y1 j = Y j) : RelQ S1 Y1 Q := by
  unfold RelQ
  rw [es, e 11 (by decide) (by decide), e 12 (by decide) (by decide), e 13 (by decide) (by decide)]
  exact h
theorem RelY.cong {S S1 : Nat → Int32} {Y Y1 : Nat → Nat → Int32} {Q : mQ} (h : RelY S Y Q) (es : S1 29 = S 29) (e : ∀ j, 19 ≤ j → j < 22 → Y1 j = Y j) : RelY S1 Y1 Q := by
  unfold RelY
  rw [es, e 19 (by decide) (by decide), e 20 (by decide) (by decide), e 21 (by decide) (by decide)]
  exact h
theorem RelW.cong {S S1 : Nat → Int32} {Y Y1 : Nat → Nat → Int32} {E E1 : mE} {W : mW} (h : RelW S Y E W) (es : ∀ j, 17 ≤ j → j < 26 → S1 j = S j) (e : ∀ j, 14 ≤ j → j < 19 → Y1 j = Y j) (hw : wOn W = true → ∀ i, i < wN W → handle E1 (wA W i) = handle E (wA W i)) : RelW S1 Y1 E1 W := by
  obtain ⟨a1, a2⟩ := h
  refine ⟨by rw [es 17 (by decide) (by decide)]; exact a1, fun h1 => ?_⟩
  obtain ⟨b1, b2, b3, b4, b5⟩ := a2 h1
  rw [es 19 (by decide) (by decide), es 20 (by decide) (by decide), es 25 (by decide) (by decide), e 14 (by decide) (by decide), e 15 (by decide) (by decide), e 16 (by decide) (by decide), e 17 (by decide) (by decide), e 18 (by decide) (by decide)]
  exact ⟨b1, b2, b3, fun i hi => (b4 i hi).trans (hw h1 i hi).symm, b5⟩
theorem Rel.er {S S1 : Nat → Int32} {Y Y1 : Nat → Nat → Int32} {M : mSt} {E1 : mE} {R1 : mR} (h : Rel S Y M) (hE : RelE Y1 E1) (hR : RelR S1 Y1 R1) (fs : ∀ j, j ≠ 0 → j ≠ 12 → S1 j = S j) (fy : ∀ j, 11 ≤ j → j ≠ 22 → Y1 j = Y j) (hw : wOn (sW M) = true → ∀ i, i < wN (sW M) → handle E1 (wA (sW M) i) = handle (sE M) (wA (sW M) i)) : Rel S1 Y1 (wER M E1 R1) := by
  obtain ⟨a1, -, -, a4, a5, a6⟩ := h
  exact ⟨(fs 1 (by decide) (by decide)).trans a1, hE, hR, a4.cong (fs 16 (by decide) (by decide)) (fun j h1 h2 => fy j h1 (by omega)), a5.cong (fun j h1 h2 => fs j (by omega) (by omega)) (fun j h1 h2 => fy j (by omega) (by omega)) hw, a6.cong (fs 29 (by decide) (by decide)) (fun j h1 h2 => fy j (by omega) (by omega))⟩
theorem relE_put {Y Y1 : Nat → Nat → Int32} {E : mE} {s k : Nat} {v t : Int32} (h : RelE Y E) (hs : s < 32) (hk : k < 6) (e5 : ∀ x, Y1 5 x = if x = 6 * s + k then v else Y 5 x) (e6 : ∀ x, Y1 6 x = if x = 6 * s + k then t else Y 6 x) (e : ∀ j, j < 5 → Y1 j = Y j) : RelE Y1 (putE E s k v t) := by
  obtain ⟨a1, a2, a3, a4, a5, a6⟩ := h
  refine ⟨?_, ?_, ?_, ?_, fun x i hx hi => ?_, fun x i hx hi => ?_⟩
  · rw [e 1 (by decide)]; exact a1
  · rw [e 2 (by decide)]; exact a2
  · rw [e 3 (by decide)]; exact a3
  · rw [e 4 (by decide)]; exact a4
  · show Y1 5 (6 * x + i) = nu (mVal E) s (nu (mVal E s) k v) x i
    rw [e5]
    by_cases c : x = s
    · rw [c, nu_s]
      by_cases c2 : i = k
      · rw [c2, nu_s, if_pos rfl]
      · rw [nu_n c2, if_neg (by omega)]; exact a5 s i hs hi
    · rw [nu_n c, if_neg (by omega)]; exact a5 x i hx hi
  · show Y1 6 (6 * x + i) = nu (mMk E) s (nu (mMk E s) k t) x i
    rw [e6]
    by_cases c : x = s
    · rw [c, nu_s]
      by_cases c2 : i = k
      · rw [c2, nu_s, if_pos rfl]
      · rw [nu_n c2, if_neg (by omega)]; exact a6 s i hs hi
    · rw [nu_n c, if_neg (by omega)]; exact a6 x i hx hi
theorem relE_kd {Y Y1 : Nat → Nat → Int32} {E : mE} {s d : Nat} (h : RelE Y E) (e3 : ∀ x, Y1 3 x = if x = s then nI d else Y 3 x) (e : ∀ j, j < 7 → j ≠ 3 → Y1 j = Y j) : RelE Y1 (becomesE E s d) := by
  obtain ⟨a1, a2, a3, a4, a5, a6⟩ := h
  refine ⟨?_, ?_, fun k hk ha => ?_, ?_, ?_, ?_⟩
  · rw [e 1 (by decide) (by decide)]; exact a1
  · rw [e 2 (by decide) (by decide)]; exact a2
  · show Y1 3 k = nI (nu (mKd E) s d k)
    rw [e3]
    by_cases c : k = s
    · rw [c, nu_s, if_pos rfl]
    · rw [nu_n c, if_neg c]; exact a3 k hk ha
  · rw [e 4 (by decide) (by decide)]; exact a4
  · rw [e 5 (by decide) (by decide)]; exact a5
  · rw [e 6 (by decide) (by decide)]; exact a6
theorem relE_make {Y Y1 : Nat → Nat → Int32} {E : mE} {s : Nat} (h : RelE Y E) (e1 : ∀ x, Y1 1 x = if x = s then nI 1 else Y 1 x) (e3 : ∀ x, Y1 3 x = if x = s then nI 0 else Y 3 x) (e4 : ∀ x, Y1 4 x = if x = s then -1 else Y 4 x) (e : ∀ j, j < 7 → j ≠ 1 → j ≠ 3 → j ≠ 4 → Y1 j = Y j) : RelE Y1 (makesE E s) := by
  obtain ⟨a1, a2, a3, a4, a5, a6⟩ := h
  refine ⟨fun k hk => ?_, ?_, fun k hk ha => ?_, fun k hk ha => ?_, ?_, ?_⟩
  · show Y1 1 k = bI (nu (mAl E) s true k)
    rw [e1]
    by_cases c : k = s
    · rw [c, nu_s, if_pos rfl]; rfl
    · rw [nu_n c, if_neg c]; exact a1 k hk
  · rw [e 2 (by decide) (by decide) (by decide) (by decide)]; exact a2
  · have ha : nu (mAl E) s true k = true := ha
    show Y1 3 k = nI (nu (mKd E) s 0 k)
    rw [e3]
    by_cases c : k = s
    · rw [c, nu_s, if_pos rfl]
    · rw [nu_n c] at ha; rw [nu_n c, if_neg c]; exact a3 k hk ha
  · have ha : nu (mAl E) s true k = true := ha
    show Y1 4 k = nO (nu (mPar E) s none k)
    rw [e4]
    by_cases c : k = s
    · rw [c, nu_s, if_pos rfl]; rfl
    · rw [nu_n c] at ha; rw [nu_n c, if_neg c]; exact a4 k hk ha
  · rw [e 5 (by decide) (by decide) (by decide) (by decide)]; exact a5
  · rw [e 6 (by decide) (by decide) (by decide) (by decide)]; exact a6
theorem relE_end {Y Y1 : Nat → Nat → Int32} {E : mE} {s : Nat} (h : RelE Y E) (hs : s < 32) (e1 : ∀ x, Y1 1 x = if x = s then nI 0 else Y 1 x) (e2 : ∀ x, Y1 2 x = if x = s then nI (mHad E s + 1) else Y 2 x) (e : ∀ j, j < 7 → j ≠ 1 → j ≠ 2 → Y1 j = Y j) : RelE Y1 (endE E s) := by
  obtain ⟨a1, a2, a3, a4, a5, a6⟩ := h
  have al : ∀ k, nu (mAl E) s false k = true → k ≠ s ∧ mAl E k = true := fun k ha => by
    by_cases c : k = s
    · rw [c, nu_s] at ha; cases ha
    · rw [nu_n c] at ha; exact ⟨c, ha⟩
  refine ⟨fun k hk => ?_, fun k hk => ?_, fun k hk ha => ?_, fun k hk ha => ?_, ?_, ?_⟩
  · show Y1 1 k = bI (nu (mAl E) s false k)
    rw [e1]
    by_cases c : k = s
    · rw [c, nu_s, if_pos rfl]; rfl
    · rw [nu_n c, if_neg c]; exact a1 k hk
  · show Y1 2 k = nI (nu (mHad E) s (mHad E s + 1) k)
    rw [e2]
    by_cases c : k = s
    · rw [c, nu_s, if_pos rfl]
    · rw [nu_n c, if_neg c]; exact a2 k hk
  · obtain ⟨c, hb⟩ := al k ha
    show Y1 3 k = nI (nu (mKd E) s 0 k)
    rw [e 3 (by decide) (by decide) (by decide), nu_n c]; exact a3 k hk hb
  · obtain ⟨c, hb⟩ := al k ha
    show Y1 4 k = nO (nu (mPar E) s none k)
    rw [e 4 (by decide) (by decide) (by decide), nu_n c]; exact a4 k hk hb
  · rw [e 5 (by decide) (by decide) (by decide)]; exact a5
  · rw [e 6 (by decide) (by decide) (by decide)]; exact a6
/-- the pile in an array: the top is the last -/
def pileY (f : Nat → Int32) (st : List Nat) : Prop := ∀ i, i < st.length → f i = nI ((st[st.length - 1 - i]?).getD 0)
theorem pile_push {f : Nat → Int32} {st : List Nat} {k : Nat} (h : pileY f st) : pileY (upd f st.length (nI k)) (k :: st) := by
  intro i hi
  have hi : i < st.length + 1 := hi
  show (if i = st.length then nI k else f i) = nI (((k :: st)[st.length + 1 - 1 - i]?).getD 0)
  by_cases c : i = st.length
  · rw [if_pos c, show st.length + 1 - 1 - i = 0 by omega]; rfl
  · rw [if_neg c, show st.length + 1 - 1 - i = (st.length - 1 - i) + 1 by omega, List.getElem?_cons_succ]
    exact h i (by omega)
theorem pile_top {f : Nat → Int32} {st : List Nat} {s : Nat} (h : pileY f (s :: st)) : f st.length = nI s := by
  rw [h st.length (Nat.lt_succ_self _)]
  show nI (((s :: st)[st.length + 1 - 1 - st.length]?).getD 0) = nI s
  rw [show st.length + 1 - 1 - st.length = 0 by omega]; rfl
theorem pile_pop {f : Nat → Int32} {st : List Nat} {s : Nat} (h : pileY f (s :: st)) : pileY f st := by
  intro i hi
  rw [h i (Nat.lt_succ_of_lt hi)]
  show nI (((s :: st)[st.length + 1 - 1 - i]?).getD 0) = _
  rw [show st.length + 1 - 1 - i = (st.length - 1 - i) + 1 by omega, List.getElem?_cons_succ]
theorem kids_nodup {E : mE} (hE : InvE0 E) {s : Nat} {st : List Nat} (h : InvP E (s :: st)) {n : Nat} (hn : n ≤ 32) : (kidsF E s n ++ st).Nodup ∧ ∀ k ∈ kidsF E s n ++ st, k < 32 := by
  have h2 := h.step hE
  have sub : ∀ k, k ∈ kidsF E s n → k ∈ kidsF E s 32 := fun k hk => by
    obtain ⟨a, b, c⟩ := (mem_kidsF hn).mp hk
    exact (mem_kidsF (Nat.le_refl _)).mpr ⟨a, by omega, c⟩
  obtain ⟨m1, m2, m3⟩ := List.nodup_append.mp h2.1
  refine ⟨List.nodup_append.mpr ⟨nodup_kidsF hn, m2, fun a ha b hb => m3 a (sub a ha) b hb⟩, fun k hk => ?_⟩
  rcases List.mem_append.mp hk with q | q
  · exact ((mem_kidsF hn).mp q).2.2
  · exact hE.2.1 k (h.2.1 k (List.mem_cons_of_mem _ q))
theorem kids_len {E : mE} (hE : InvE0 E) {s : Nat} {st : List Nat} (h : InvP E (s :: st)) {n : Nat} (hn : n ≤ 32) : (kidsF E s n ++ st).length ≤ 32 := nodup_len (kids_nodup hE h hn).1 (kids_nodup hE h hn).2
theorem kid_iff {E : mE} (hE : InvE0 E) {s k : Nat} : (mAl (endE E s) k = true ∧ mPar (endE E s) k = some s) ↔ mPar E k = some s := by
  obtain ⟨e1, e2, e3, dp, e5⟩ := hE
  constructor
  · rintro ⟨a, b⟩
    have hk : k ≠ s := fun z => by
      have : nu (mAl E) s false k = true := a
      rw [z, nu_s] at this; cases this
    have : nu (mPar E) s none k = some s := b
    rw [nu_n hk] at this; exact this
  · intro a
    have hk : k ≠ s := fun z => by rw [z] at a; exact absurd (e5 s s a).1 (Nat.lt_irrefl _)
    refine ⟨?_, ?_⟩
    · show nu (mAl E) s false k = true
      rw [nu_n hk]
      cases q : mAl E k with
      | true => rfl
      | false => rw [(e3 k q).2] at a; cases a
    · show nu (mPar E) s none k = some s
      rw [nu_n hk]; exact a
