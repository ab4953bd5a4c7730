/-! the family that ends, in the order in which it ends -/
def preL (E : mE) : Nat → List Nat → List Nat
  | 0, st => st
  | _ + 1, [] => []
  | n + 1, s :: st => s :: preL E n (kidsF E s 32 ++ st)
theorem preL_nil (E : mE) : ∀ n, preL E n [] = [] := by
  intro n; cases n <;> rfl
def foldE : List Nat → mE → mR → mE × mR
  | [], E, R => (E, R)
  | s :: q, E, R => foldE q (endE E s) (endR E R s)
theorem foldE_snoc (s : Nat) : ∀ (q : List Nat) (E : mE) (R : mR), foldE (q ++ [s]) E R = (endE (foldE q E R).1 s, endR (foldE q E R).1 (foldE q E R).2 s) := by
  intro q
  induction q with
  | nil => intro E R; rfl
  | cons x q ih => intro E R; exact ih (endE E x) (endR E R x)
def InvJ (E0 : mE) (h : Nat) (dp : Nat → Nat) (E : mE) (st : List Nat) : Prop :=
  (∀ k, mPar E k = mPar E0 k ∨ (mPar E k = none ∧ mAl E k = false)) ∧ (∀ k j, mPar E0 k = some j → mAl E k = false → k = h ∨ mAl E j = false) ∧ (∀ k ∈ st, k = h ∨ ∃ j, mPar E0 k = some j ∧ mAl E j = false) ∧ ∀ k ∈ st, dp h ≤ dp k
theorem kidsF_cong {E E0 : mE} {s : Nat} (e : ∀ k, mPar E k = some s ↔ mPar E0 k = some s) : ∀ n, kidsF E s n = kidsF E0 s n := by
  intro n
  induction n with
  | zero => rfl
  | succ n ih =>
    unfold kidsF
    by_cases c : mPar E (31 - n) = some s
    · rw [if_pos c, if_pos ((e _).mp c), ih]
    · rw [if_neg c, if_neg (fun z => c ((e _).mpr z)), ih]
theorem dead_up {E : mE} {s j : Nat} (h : mAl E j = false) : mAl (endE E s) j = false := by
  show nu (mAl E) s false j = false
  by_cases c : j = s
  · rw [c, nu_s]
  · rw [nu_n c]; exact h
theorem InvJ.kids {E0 E : mE} {h s : Nat} {dp : Nat → Nat} {st : List Nat} (hdp : ∀ k j, mPar E0 k = some j → dp j < dp k) (hJ : InvJ E0 h dp E (s :: st)) (hs : mAl E s = true) (n : Nat) : kidsF E s n = kidsF E0 s n := by
  obtain ⟨j1, j2, j3, j4⟩ := hJ
  refine kidsF_cong (fun k => ⟨fun e => ?_, fun e => ?_⟩) n
  · rcases j1 k with a | ⟨a, -⟩
    · rw [← a]; exact e
    · rw [a] at e; cases e
  · rcases j1 k with a | ⟨-, a⟩
    · rw [a]; exact e
    · rcases j2 k s e a with b | b
      · have h1 := hdp k s e
        have h2 := j4 s List.mem_cons_self
        rw [b] at h1; omega
      · rw [hs] at b; cases b
theorem InvJ.step {E0 E : mE} {h s : Nat} {dp : Nat → Nat} {st : List Nat} (hdp : ∀ k j, mPar E0 k = some j → dp j < dp k) (hJ : InvJ E0 h dp E (s :: st)) : InvJ E0 h dp (endE E s) (kidsF E s 32 ++ st) := by
  obtain ⟨j1, j2, j3, j4⟩ := hJ
  have key : ∀ k, k ∈ kidsF E s 32 → mPar E0 k = some s := fun k hk => by
    have h1 := ((mem_kidsF (by omega)).mp hk).1
    rcases j1 k with a | ⟨a, -⟩
    · rw [← a]; exact h1
    · rw [a] at h1; cases h1
  have hd : mAl (endE E s) s = false := nu_s
  refine ⟨fun k => ?_, fun k j e a => ?_, fun k hk => ?_, fun k hk => ?_⟩
  · by_cases c : k = s
    · exact Or.inr ⟨by rw [c]; exact nu_s, by rw [c]; exact nu_s⟩
    · have e1 : mPar (endE E s) k = mPar E k := nu_n c
      have e2 : mAl (endE E s) k = mAl E k := nu_n c
      rw [e1, e2]; exact j1 k
  · by_cases c : k = s
    · rcases j3 s List.mem_cons_self with b | ⟨j5, b1, b2⟩
      · exact Or.inl (c.trans b)
      · rw [c, b1] at e
        obtain rfl := Option.some.inj e
        exact Or.inr (dead_up b2)
    · have e2 : mAl (endE E s) k = mAl E k := nu_n c
      rw [e2] at a
      rcases j2 k j e a with b | b
      · exact Or.inl b
      · exact Or.inr (dead_up b)
  · rcases List.mem_append.mp hk with hk | hk
    · exact Or.inr ⟨s, key k hk, hd⟩
    · rcases j3 k (List.mem_cons_of_mem _ hk) with b | ⟨j5, b1, b2⟩
      · exact Or.inl b
      · exact Or.inr ⟨j5, b1, dead_up b2⟩
  · rcases List.mem_append.mp hk with hk | hk
    · have h1 := hdp k s (key k hk)
      have h2 := j4 s List.mem_cons_self
      omega
    · exact j4 k (List.mem_cons_of_mem _ hk)
theorem InvJ.one {E : mE} {s : Nat} {dp : Nat → Nat} (hE : InvE E) : InvJ E s dp E [s] := ⟨fun _ => Or.inl rfl, fun k j (e : mPar E k = some j) a => (by rw [(hE.2.2.1 k a).2] at e; cases e), fun k hk => Or.inl (List.mem_singleton.mp hk), fun k hk => by rw [List.mem_singleton.mp hk]; exact Nat.le_refl _⟩
theorem pre_main {E0 : mE} {h : Nat} {dp : Nat → Nat} (hdp : ∀ k j, mPar E0 k = some j → dp j < dp k) : ∀ (n : Nat) (st : List Nat) (E : mE) (R : mR) (c : Nat), InvE0 E → InvR E R → InvP E st → InvJ E0 h dp E st → cnt (mAl E) 32 ≤ n →
    (∀ m, n < m → endsL m st E R c = ((foldE (preL E0 n st) E R).1, (foldE (preL E0 n st) E R).2, c + (preL E0 n st).length)) ∧ (∀ x ∈ preL E0 n st, mAl E x = true) ∧ (preL E0 n st).Nodup := by
  intro n
  induction n with
  | zero =>
    intro st E R c hE hR hP hJ hn
    cases st with
    | nil =>
      refine ⟨fun m hm => ?_, fun x hx => (List.not_mem_nil hx).elim, List.nodup_nil⟩
      obtain ⟨m, rfl⟩ : ∃ q, m = q + 1 := ⟨m - 1, by omega⟩
      rfl
    | cons s st =>
      have hs := hP.2.1 s List.mem_cons_self
      have := cnt_upd (mAl E) hs 32
      rw [if_pos (hE.2.1 s hs)] at this
      omega
  | succ n ih =>
    intro st E R c hE hR hP hJ hn
    cases st with
    | nil =>
      refine ⟨fun m hm => ?_, fun x hx => (List.not_mem_nil hx).elim, List.nodup_nil⟩
      obtain ⟨m, rfl⟩ : ∃ q, m = q + 1 := ⟨m - 1, by omega⟩
      rfl
    | cons s st =>
      have hs := hP.2.1 s List.mem_cons_self
      have hc := cnt_upd (mAl E) hs 32
      rw [if_pos (hE.2.1 s hs)] at hc
      obtain ⟨l1, l2⟩ := leave0 hE hR hs
      have hk := hJ.kids hdp hs 32
      obtain ⟨a1, a2, a3⟩ := ih (kidsF E s 32 ++ st) (endE E s) (endR E R s) (c + 1) l1 l2 (hP.step hE) (hJ.step hdp) (by show cnt (nu (mAl E) s false) 32 ≤ n; omega)
      have e1 : preL E0 (n + 1) (s :: st) = s :: preL E0 n (kidsF E s 32 ++ st) := by rw [hk]; rfl
      rw [e1]
      have key : ∀ x, x ∈ preL E0 n (kidsF E s 32 ++ st) → x ≠ s ∧ mAl E x = true := fun x hx => by
        have h1 : nu (mAl E) s false x = true := a2 x hx
        by_cases c1 : x = s
        · rw [c1, nu_s] at h1; cases h1
        · rw [nu_n c1] at h1; exact ⟨c1, h1⟩
      refine ⟨fun m hm => ?_, fun x hx => ?_, List.nodup_cons.mpr ⟨fun z => (key s z).1 rfl, a3⟩⟩
      · obtain ⟨m, rfl⟩ : ∃ q, m = q + 1 := ⟨m - 1, by omega⟩
        show endsL m (kidsF E s 32 ++ st) (endE E s) (endR E R s) (c + 1) = _
        rw [a1 m (by omega)]
        show (_, _, _) = (_, _, _)
        rw [List.length_cons, show c + 1 + (preL E0 n (kidsF E s 32 ++ st)).length = c + ((preL E0 n (kidsF E s 32 ++ st)).length + 1) by omega]
        rfl
      · rcases List.mem_cons.mp hx with rfl | hx
        · exact hs
        · exact (key x hx).2
/-- the family of s -/
def famL (E : mE) (s : Nat) : List Nat := preL E 32 [s]
theorem fam_ends {E : mE} {R : mR} {s : Nat} (hE : InvE E) (hR : InvR E R) (hs : mAl E s = true) : ends E R s = ((foldE (famL E s) E R).1, (foldE (famL E s) E R).2, (famL E s).length) ∧ (∀ x ∈ famL E s, mAl E x = true) ∧ (famL E s).Nodup ∧ (famL E s).length ≤ 32 ∧ ∀ x ∈ famL E s, x < 32 := by
  obtain ⟨dp, hdp⟩ := hE.2.2.2.2
  obtain ⟨a1, a2, a3⟩ := pre_main (E0 := E) (h := s) hdp 32 [s] E R 0 hE.to0 hR (InvP.one hE hs) (InvJ.one hE) (cnt_le _ _)
  refine ⟨?_, a2, a3, nodup_len a3 (fun x hx => hE.2.1 x (a2 x hx)), fun x hx => hE.2.1 x (a2 x hx)⟩
  have := a1 40 (by omega)
  rw [Nat.zero_add] at this
  exact this
theorem fold_inv : ∀ (q r : List Nat) (E : mE) (R : mR), InvE0 E → InvR E R → (∀ x ∈ q ++ r, mAl E x = true) → (q ++ r).Nodup → InvE0 (foldE q E R).1 ∧ InvR (foldE q E R).1 (foldE q E R).2 ∧ ∀ x ∈ r, mAl (foldE q E R).1 x = true := by
  intro q
  induction q with
  | nil => intro r E R hE hR ha _; exact ⟨hE, hR, ha⟩
  | cons s q ih =>
    intro r E R hE hR ha hn
    obtain ⟨l1, l2⟩ := leave0 hE hR (ha s List.mem_cons_self)
    obtain ⟨n1, n2⟩ := List.nodup_cons.mp hn
    refine ih r (endE E s) (endR E R s) l1 l2 (fun x hx => ?_) n2
    show nu (mAl E) s false x = true
    rw [nu_n (fun z => n1 (by rw [← z]; exact hx))]
    exact ha x (List.mem_cons_of_mem _ hx)
theorem pre_sub (E : mE) : ∀ (n : Nat) (st : List Nat), st.Sublist (preL E n st) := by
  intro n
  induction n with
  | zero => intro st; exact List.Sublist.refl _
  | succ n ih =>
    intro st
    cases st with
    | nil => exact List.Sublist.refl _
    | cons s st => exact List.Sublist.cons₂ s ((List.sublist_append_right _ _).trans (ih _))
theorem kids_sub (E : mE) (s : Nat) (n : Nat) : ∀ m, (kidsF E s n).Sublist (kidsF E s (n + m)) := by
  intro m
  induction m with
  | zero => exact List.Sublist.refl _
  | succ m ih =>
    show (kidsF E s n).Sublist (kidsF E s (n + m + 1))
    rw [kidsF]
    split
    · exact List.Sublist.cons _ ih
    · exact ih
theorem kid_f {E : mE} {s j : Nat} (hj : j < 32) (h : mPar E j ≠ some s) : kidsF E s (32 - j) = kidsF E s (32 - (j + 1)) := by
  rw [show 32 - j = 32 - (j + 1) + 1 by omega, kidsF, show 31 - (32 - (j + 1)) = j by omega, if_neg h]
theorem kid_t {E : mE} {s j : Nat} (hj : j < 32) (h : mPar E j = some s) : kidsF E s (32 - j) = j :: kidsF E s (32 - (j + 1)) := by
  rw [show 32 - j = 32 - (j + 1) + 1 by omega, kidsF, show 31 - (32 - (j + 1)) = j by omega, if_pos h]
def gL (q : List Nat) (j : Nat) : Nat := (q[j]?).getD 0
theorem gL_l {q r : List Nat} {j : Nat} (h : j < q.length) : gL (q ++ r) j = gL q j := by unfold gL; rw [List.getElem?_append_left h]
theorem gL_r {q r : List Nat} {j : Nat} (h : q.length ≤ j) : gL (q ++ r) j = gL r (j - q.length) := by unfold gL; rw [List.getElem?_append_right h]
theorem gL_m {q : List Nat} {j : Nat} (h : j < q.length) : gL q j ∈ q := by unfold gL; rw [List.getElem?_eq_getElem h]; exact List.getElem_mem h
theorem gL_at {q r : List Nat} {s : Nat} : gL (q ++ s :: r) q.length = s := by rw [gL_r (Nat.le_refl _), Nat.sub_self]; rfl
theorem ins_list (b v : Nat) (q r : List Nat) : ∀ j, j < (q ++ v :: r).length → ea b (gL (q ++ v :: r) j) = insF (fun j => ea b (gL (q ++ r) j)) q.length (ea b v) j := by
  intro j hj
  unfold insF
  by_cases c : j < q.length
  · rw [if_pos c, gL_l c]
    show _ = ea b (gL (q ++ r) j)
    rw [gL_l c]
  · rw [if_neg c]
    by_cases c2 : j = q.length
    · rw [if_pos c2, c2, gL_at]
    · rw [if_neg c2]
      show _ = ea b (gL (q ++ r) (j - 1))
      rw [gL_r (by omega), gL_r (by omega), show j - q.length = j - 1 - q.length + 1 by omega]
      rfl
/-- what a list made by additions has cost -/
def okF (cap : Nat) : Prop := cap = 0 ∨ cap = 10 ∨ cap = 15 ∨ cap = 22 ∨ cap = 33
def gC (cap : Nat) : Nat := if cap = 0 then 0 else if cap = 10 then 1 else if cap = 15 then 2 else if cap = 22 then 3 else 4
def gS (cap : Nat) : Nat := if cap = 0 then 0 else if cap = 10 then 10 else if cap = 15 then 25 else if cap = 22 then 47 else 80
theorem okF.k {cap : Nat} (h : okF cap) : okK cap := by
  rcases h with h | h | h | h | h <;> subst h <;> (unfold okK; decide)
theorem g_add {cap n : Nat} (h : okF cap) (hn : n ≤ cap) (h2 : n < 33) : okF (nCap cap n) ∧ gC cap + dC cap n = gC (nCap cap n) ∧ gS cap + dS cap n = gS (nCap cap n) ∧ 0 < nCap cap n := by
  by_cases c : n < cap
  · have e1 : dC cap n = 0 := if_pos c
    have e2 : dS cap n = 0 := if_pos c
    have e4 : nCap cap n = cap := if_pos c
    rw [e1, e2, e4]; exact ⟨h, rfl, rfl, by omega⟩
  · have e1 : dC cap n = 1 := if_neg c
    have e2 : dS cap n = capN cap := if_neg c
    have e4 : nCap cap n = capN cap := if_neg c
    rw [e1, e2, e4]
    rcases h with h | h | h | h | h
    · subst h; exact ⟨by unfold okF; decide, by decide, by decide, by decide⟩
    · subst h; exact ⟨by unfold okF; decide, by decide, by decide, by decide⟩
    · subst h; exact ⟨by unfold okF; decide, by decide, by decide, by decide⟩
    · subst h; exact ⟨by unfold okF; decide, by decide, by decide, by decide⟩
    · omega
theorem g_le {cap : Nat} (h : okF cap) : gC cap ≤ 4 ∧ gS cap ≤ 80 := by
  rcases h with h | h | h | h | h <;> subst h <;> decide
