/-! how the law ends an entity and all that go with it: down to the lowest child, up along those that have gone -/
def flat (E : mE) : List Nat → List Nat
  | [] => []
  | p :: ch => kidsF E p 32 ++ flat E ch
def linked (F : Nat → Int32) (k : Nat) : List Nat → Prop
  | [] => True
  | [a] => a = k
  | a :: p :: ch => F (6 * a + 3) = nI p ∧ linked F k (p :: ch)
def Chn (F : Nat → Int32) (E : mE) (k : Nat) (ch : List Nat) : Prop := ch.Nodup ∧ (∀ q ∈ ch, mAl E q = false ∧ q < 10) ∧ linked F k ch
def EA (F : Nat → Int32) (E : mE) (k a : Nat) (ch st : List Nat) : Prop := mAl E a = true ∧ Chn F E k ch ∧ ((ch = [] ∧ a = k ∧ st = []) ∨ ∃ p t rest, ch = p :: rest ∧ kidsF E p 32 = a :: t ∧ st = t ++ flat E rest)
def EndI (F : Nat → Int32) (E : mE) (k : Nat) (x : Int32) (pl : List Nat) (fu : Nat) : Prop := (∃ a ch st, x = nI a ∧ pl = a :: st ∧ EA F E k a ch st ∧ 2 * cnt (mAl E) 32 + ch.length + 1 ≤ fu) ∨ (∃ a ch, x = nI a ∧ pl = flat E (a :: ch) ∧ Chn F E k (a :: ch) ∧ 2 * cnt (mAl E) 32 + ch.length + 3 ≤ fu) ∨ (x = -1 ∧ pl = [])
theorem endsL_nil {n : Nat} {E : mE} {R : mR} {c : Nat} : endsL n [] E R c = (E, R, c) := by cases n <;> rfl
theorem kids_end {E : mE} {a p : Nat} : ∀ n, kidsF (endE E a) p n = (kidsF E p n).filter (fun x => decide (x ≠ a)) := by
  intro n
  induction n with
  | zero => rfl
  | succ n ih =>
    unfold kidsF
    rw [ih]
    by_cases c : 31 - n = a
    · have e : mPar (endE E a) (31 - n) = none := by rw [c]; exact nu_s
      rw [e, if_neg (by simp)]
      by_cases d : mPar E (31 - n) = some p
      · rw [if_pos d, List.filter_cons, if_neg (by rw [c]; simp)]
      · rw [if_neg d]
    · have e : mPar (endE E a) (31 - n) = mPar E (31 - n) := nu_n c
      rw [e]
      by_cases d : mPar E (31 - n) = some p
      · rw [if_pos d, if_pos d, List.filter_cons, if_pos (by simp [c])]
      · rw [if_neg d, if_neg d]
theorem kids_keep {E : mE} {a p : Nat} (h : mPar E a ≠ some p) : kidsF (endE E a) p 32 = kidsF E p 32 := by
  rw [kids_end]
  refine List.filter_eq_self.mpr (fun x hx => decide_eq_true (fun e => h ?_))
  rw [e] at hx
  exact ((mem_kidsF (Nat.le_refl _)).mp hx).1
theorem flat_end {E : mE} {a : Nat} : ∀ ch : List Nat, (∀ p ∈ ch, mPar E a ≠ some p) → flat (endE E a) ch = flat E ch := by
  intro ch
  induction ch with
  | nil => intro _; rfl
  | cons p t ih =>
    intro h
    unfold flat
    rw [kids_keep (h p List.mem_cons_self), ih (fun q hq => h q (List.mem_cons_of_mem _ hq))]
theorem linked_cong {F F1 : Nat → Int32} {k : Nat} (h : ∀ i, F1 (6 * i + 3) = F (6 * i + 3)) : ∀ ch : List Nat, linked F k ch → linked F1 k ch := by
  intro ch
  induction ch with
  | nil => exact id
  | cons a t ih =>
    cases t with
    | nil => exact id
    | cons p t => exact fun z => ⟨(h a).trans z.1, ih z.2⟩
theorem linked_mem {F : Nat → Int32} {k : Nat} : ∀ (ch : List Nat) (a : Nat), linked F k (a :: ch) → k ∈ a :: ch := by
  intro ch
  induction ch with
  | nil => intro a h; rw [show a = k from h]; exact List.mem_cons_self
  | cons p t ih => intro a h; exact List.mem_cons_of_mem _ (ih p h.2)
theorem EA.gone {F F1 : Nat → Int32} {E : mE} {k a : Nat} {ch st : List Nat} (h : EA F E k a ch st) (hs : mPar E a ≠ some a) (hp : F (6 * a + 3) = nO (mPar E a)) (h3 : ∀ i, F1 (6 * i + 3) = F (6 * i + 3)) (ha : a < 10) : Chn F1 (endE E a) k (a :: ch) ∧ kidsF E a 32 ++ st = flat (endE E a) (a :: ch) := by
  obtain ⟨hal, ⟨hn, hd, hl⟩, hc⟩ := h
  have hna : a ∉ ch := fun z => by rw [(hd a z).1] at hal; cases hal
  have hpa : ∀ p t, kidsF E p 32 = a :: t → mPar E a = some p := fun p t e => ((mem_kidsF (Nat.le_refl _)).mp (by rw [e]; exact List.mem_cons_self)).1
  refine ⟨⟨List.nodup_cons.mpr ⟨hna, hn⟩, fun q hq => ?_, ?_⟩, ?_⟩
  · rcases List.mem_cons.mp hq with e | e
    · rw [e]; exact ⟨nu_s, ha⟩
    · have hne : q ≠ a := fun z => hna (by rw [← z]; exact e)
      exact ⟨(nu_n hne).trans (hd q e).1, (hd q e).2⟩
  · rcases hc with ⟨e1, e2, -⟩ | ⟨p, t, rest, e1, e2, -⟩
    · subst e1; exact e2
    · subst e1
      refine ⟨?_, linked_cong h3 _ hl⟩
      rw [h3, hp, hpa p t e2]
      rfl
  · show _ = kidsF (endE E a) a 32 ++ flat (endE E a) ch
    rw [kids_keep hs]
    congr 1
    rcases hc with ⟨e1, -, e3⟩ | ⟨p, t, rest, e1, e2, e3⟩
    · subst e1; exact e3
    · subst e1
      have hpp := hpa p t e2
      have hnp := List.nodup_cons.mp hn
      rw [e3]
      show _ = kidsF (endE E a) p 32 ++ flat (endE E a) rest
      rw [flat_end rest (fun q hq e => by
        have : p = q := Option.some.inj (hpp.symm.trans e)
        exact hnp.1 (by rw [this]; exact hq)), kids_end, e2]
      congr 1
      have hnd : (a :: t).Nodup := by rw [← e2]; exact nodup_kidsF (Nat.le_refl _)
      rw [List.filter_cons, if_neg (by simp)]
      refine (List.filter_eq_self.mpr (fun x hx => ?_)).symm
      have hxa : x ≠ a := fun e => (List.nodup_cons.mp hnd).1 (by rw [← e]; exact hx)
      simp [hxa]
theorem mid_child {F : Nat → Int32} {E : mE} {k a c fu : Nat} {ch t : List Nat} (h : Chn F E k (a :: ch)) (hf : 2 * cnt (mAl E) 32 + ch.length + 3 ≤ fu + 1) (hk : kidsF E a 32 = c :: t) (hal : mAl E c = true) : EndI F E k (nI c) (flat E (a :: ch)) fu := by
  refine Or.inl ⟨c, a :: ch, t ++ flat E ch, rfl, ?_, ⟨hal, h, Or.inr ⟨a, t, ch, rfl, hk, rfl⟩⟩, by rw [List.length_cons]; omega⟩
  show kidsF E a 32 ++ flat E ch = _
  rw [hk]
  rfl
theorem mid_up {F : Nat → Int32} {E : mE} {k a fu : Nat} {ch : List Nat} (h : Chn F E k (a :: ch)) (hf : 2 * cnt (mAl E) 32 + ch.length + 3 ≤ fu + 1) (hk : kidsF E a 32 = []) (hne : a ≠ k) : EndI F E k (F (6 * a + 3)) (flat E (a :: ch)) fu := by
  obtain ⟨hn, hd, hl⟩ := h
  cases ch with
  | nil => exact absurd hl hne
  | cons p rest =>
    rw [List.length_cons] at hf
    refine Or.inr (Or.inl ⟨p, rest, hl.1, ?_, ⟨(List.nodup_cons.mp hn).2, fun q hq => hd q (List.mem_cons_of_mem _ hq), hl.2⟩, by omega⟩)
    show kidsF E a 32 ++ _ = _
    rw [hk]
    rfl
theorem mid_end {F : Nat → Int32} {E : mE} {k a fu : Nat} {ch : List Nat} (h : Chn F E k (a :: ch)) (hk : kidsF E a 32 = []) (e : a = k) : EndI F E k (-1) (flat E (a :: ch)) fu := by
  subst e
  obtain ⟨hn, hd, hl⟩ := h
  cases ch with
  | nil => exact Or.inr (Or.inr ⟨rfl, by show kidsF E a 32 ++ [] = []; rw [hk]; rfl⟩)
  | cons p rest => exact absurd (linked_mem rest p hl.2) (List.nodup_cons.mp hn).1
def chI (f : Nat → Bool) (u : Nat) (o : Option Nat) : Prop := match o with
  | none => ∀ j, u ≤ j → j < 10 → f j = false
  | some c => u ≤ c ∧ c < 10 ∧ f c = true ∧ ∀ j, u ≤ j → j < c → f j = false
theorem chI_t {f : Nat → Bool} {i : Nat} {o : Option Nat} (hi : i < 10) (h : f i = true) : chI f i (some i) := ⟨Nat.le_refl _, hi, h, fun j h1 h2 => by omega⟩
theorem chI_f {f : Nat → Bool} {i : Nat} {o : Option Nat} (h : f i = false) (ho : chI f (i + 1) o) : chI f i o := by
  cases o with
  | none =>
    intro j h1 h2
    by_cases c : j = i
    · rw [c]; exact h
    · exact ho j (by omega) h2
  | some c =>
    refine ⟨by have := ho.1; omega, ho.2.1, ho.2.2.1, ?_⟩
    intro j h1 h2
    by_cases d : j = i
    · rw [d]; exact h
    · exact ho.2.2.2 j (by omega) h2
theorem kids_low {E : mE} {a : Nat} : ∀ n, n ≤ 32 → match kidsF E a n with
    | [] => ∀ j, 32 - n ≤ j → j < 32 → mPar E j ≠ some a
    | c :: _ => 32 - n ≤ c ∧ c < 32 ∧ mPar E c = some a ∧ ∀ j, 32 - n ≤ j → j < c → mPar E j ≠ some a := by
  intro n
  induction n with
  | zero => intro _; exact fun j h1 h2 => by omega
  | succ n ih =>
    intro hn
    have ih := ih (by omega)
    unfold kidsF
    by_cases d : mPar E (31 - n) = some a
    · rw [if_pos d]
      exact ⟨by omega, by omega, d, fun j h1 h2 => by omega⟩
    · rw [if_neg d]
      cases e : kidsF E a n with
      | nil =>
        rw [e] at ih
        intro j h1 h2
        by_cases c : j = 31 - n
        · rw [c]; exact d
        · exact ih j (by omega) h2
      | cons c t =>
        rw [e] at ih
        refine ⟨by have := ih.1; omega, ih.2.1, ih.2.2.1, ?_⟩
        intro j h1 h2
        by_cases c2 : j = 31 - n
        · rw [c2]; exact d
        · exact ih.2.2.2 j (by omega) h2
/-- the lowest child is the head of the children -/
theorem kids_first {E : mE} {a : Nat} (h10 : ∀ k, mAl E k = true → k < 10) (hE : ∀ k j, mPar E k = some j → mAl E k = true) {o : Option Nat} (ho : chI (fun i => mAl E i && decide (mPar E i = some a)) 0 o) : match o with
    | none => kidsF E a 32 = []
    | some c => mAl E c = true ∧ ∃ t, kidsF E a 32 = c :: t := by
  have hl := kids_low (E := E) (a := a) 32 (Nat.le_refl _)
  have hno : ∀ j, (mAl E j && decide (mPar E j = some a)) = false → mPar E j ≠ some a := fun j h e => by
    rw [hE j a e, decide_eq_true e] at h; cases h
  have hye : ∀ j, (mAl E j && decide (mPar E j = some a)) = true → mAl E j = true ∧ mPar E j = some a := fun j h => by
    cases z : mAl E j
    · rw [z] at h; cases h
    · rw [z] at h; exact ⟨rfl, of_decide_eq_true h⟩
  cases o with
  | none =>
    cases e : kidsF E a 32 with
    | nil => rfl
    | cons c t =>
      rw [e] at hl
      exact absurd hl.2.2.1 (hno c (ho c (Nat.zero_le _) (h10 c (hE c a hl.2.2.1))))
  | some c =>
    obtain ⟨-, h1, h2, h3⟩ := ho
    obtain ⟨h4, h5⟩ := hye c h2
    refine ⟨h4, ?_⟩
    cases e : kidsF E a 32 with
    | nil => rw [e] at hl; exact absurd h5 (hl c (by omega) (by omega))
    | cons d t =>
      rw [e] at hl
      have hd10 := h10 d (hE d a hl.2.2.1)
      have : d = c := by
        rcases Nat.lt_trichotomy d c with z | z | z
        · exact absurd hl.2.2.1 (hno d (h3 d (Nat.zero_le _) z))
        · exact z
        · exact absurd h5 (hl.2.2.2 c (by omega) z)
      exact ⟨t, by rw [this]⟩
