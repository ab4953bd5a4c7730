/-! the store's order is kept -/
theorem holes : ∀ (m n : Nat) (f : Nat → Nat), (∀ i, i < n → f i < m) → (∀ i j, i < j → j < n → f i ≠ f j) → n ≤ m := by
  intro m
  induction m with
  | zero =>
    intro n f h _
    rcases Nat.eq_zero_or_pos n with e | e
    · omega
    · exact absurd (h 0 e) (Nat.not_lt_zero _)
  | succ m ih =>
    intro n f h1 h2
    rcases Nat.eq_zero_or_pos n with e | e
    · omega
    · obtain ⟨k, rfl⟩ : ∃ k, n = k + 1 := ⟨n - 1, by omega⟩
      have := ih k (fun i => if f i = m then f k else f i) (fun i hi => by
        show (if f i = m then f k else f i) < m
        by_cases c : f i = m
        · rw [if_pos c]
          have a := h1 k (by omega)
          have b := h2 i k hi (by omega)
          omega
        · rw [if_neg c]
          have a := h1 i (by omega)
          omega) (fun i j hij hj => by
        show (if f i = m then f k else f i) ≠ (if f j = m then f k else f j)
        have a := h2 i j hij (by omega)
        have b := h2 i k (by omega) (by omega)
        have c := h2 j k (by omega) (by omega)
        by_cases ci : f i = m
        · by_cases cj : f j = m
          · omega
          · rw [if_pos ci, if_neg cj]; exact fun z => c z.symm
        · by_cases cj : f j = m
          · rw [if_neg ci, if_pos cj]; exact b
          · rw [if_neg ci, if_neg cj]; exact a)
      omega
theorem nodup_len {l : List Nat} (h : l.Nodup) (hl : ∀ x ∈ l, x < 32) : l.length ≤ 32 := by
  refine holes 32 l.length (fun i => (l[i]?).getD 0) (fun i hi => ?_) (fun i j hij hj => ?_)
  · show (l[i]?).getD 0 < 32
    rw [List.getElem?_eq_getElem hi]
    exact hl _ (List.getElem_mem hi)
  · show (l[i]?).getD 0 ≠ (l[j]?).getD 0
    rw [List.getElem?_eq_getElem (by omega), List.getElem?_eq_getElem hj]
    exact List.pairwise_iff_getElem.mp h i j (by omega) hj hij
def okR (R : mR) : Prop := (∀ r, r < rN R → rS R r < 64) ∧ (∀ r q, r < rN R → q < rN R → rS R r = rS R q → r = q) ∧ (∀ r j, r < rN R → j < rZ R r → rM R r j < 32) ∧ ∀ r i j, r < rN R → i < rZ R r → j < rZ R r → rM R r i = rM R r j → i = j
theorem InvR.ok {E : mE} {R : mR} (hE : InvE E) (h : InvR E R) : okR R := ⟨h.1, h.2.1, fun r j hr hj => hE.2.1 _ (h.2.2.1 r j hr hj).1, h.2.2.2.1⟩
theorem okR.le {R : mR} (h : okR R) : rN R ≤ 64 := holes 64 (rN R) (rS R) h.1 (fun i j hij hj e => by have := h.2.1 i j (by omega) hj e; omega)
theorem okR.new {R : mR} (h : okR R) {d : Nat} (hd : d < 64) (hn : row R d = rN R) : rN R < 64 := by
  have := holes 64 (rN R + 1) (fun i => if i = rN R then d else rS R i) (fun i hi => by
    show (if i = rN R then d else rS R i) < 64
    by_cases c : i = rN R
    · rw [if_pos c]; exact hd
    · rw [if_neg c]; exact h.1 i (by omega)) (fun i j hij hj => by
    show (if i = rN R then d else rS R i) ≠ (if j = rN R then d else rS R j)
    rw [if_neg (by omega : ¬ i = rN R)]
    by_cases c : j = rN R
    · rw [if_pos c]; exact row_no hn (by omega)
    · rw [if_neg c]; exact fun e => by have := h.2.1 i j (by omega) (by omega) e; omega)
  omega
theorem okR.z {R : mR} (h : okR R) {r : Nat} (hr : r < rN R) : rZ R r ≤ 32 := holes 32 (rZ R r) (rM R r) (fun i hi => h.2.2.1 r i hr hi) (fun i j hij hj e => by have := h.2.2.2 r i j hr (by omega) hj e; omega)
theorem okR.zlt {R : mR} (h : okR R) {r k : Nat} (hr : r < rN R) (hk : k < 32) (hn : ∀ j, j < rZ R r → rM R r j ≠ k) : rZ R r < 32 := by
  have := holes 32 (rZ R r + 1) (fun i => if i = rZ R r then k else rM R r i) (fun i hi => by
    show (if i = rZ R r then k else rM R r i) < 32
    by_cases c : i = rZ R r
    · rw [if_pos c]; exact hk
    · rw [if_neg c]; exact h.2.2.1 r i hr (by omega)) (fun i j hij hj => by
    show (if i = rZ R r then k else rM R r i) ≠ (if j = rZ R r then k else rM R r j)
    rw [if_neg (by omega : ¬ i = rZ R r)]
    by_cases c : j = rZ R r
    · rw [if_pos c]; exact hn i (by omega)
    · rw [if_neg c]; exact fun e => by have := h.2.2.2 r i j hr (by omega) (by omega) e; omega)
  omega
theorem del_row (R : mR) (r k d : Nat) : row (rowDel R r k) d = row R d := row_cong (R := R) (R1 := rowDel R r k) rfl (fun _ _ => rfl) d
theorem push_row (R : mR) (r k d : Nat) : row (rowPush R r k) d = row R d := row_cong (R := R) (R1 := rowPush R r k) rfl (fun _ _ => rfl) d
theorem del_m {R : mR} {r k j : Nat} : rM (rowDel R r k) r j = if rM R r j = k then rM R r (rZ R r - 1) else rM R r j := by
  show nu (rM R) r _ r j = _
  rw [nu_s]
theorem del_mn {R : mR} {r k q : Nat} (h : q ≠ r) : rM (rowDel R r k) q = rM R q := nu_n h
theorem del_z {R : mR} {r k : Nat} : rZ (rowDel R r k) r = rZ R r - 1 := nu_s
theorem del_zn {R : mR} {r k q : Nat} (h : q ≠ r) : rZ (rowDel R r k) q = rZ R q := nu_n h
theorem okR.del {R : mR} (h : okR R) {r k j0 : Nat} (hr : r < rN R) (hj0 : j0 < rZ R r) (e0 : rM R r j0 = k) : okR (rowDel R r k) ∧ (∀ j, j < rZ (rowDel R r k) r → rM (rowDel R r k) r j ≠ k) := by
  have key : ∀ j, j < rZ R r - 1 → rM (rowDel R r k) r j = if j = j0 then rM R r (rZ R r - 1) else rM R r j := by
    intro j hj
    rw [del_m]
    by_cases c : rM R r j = k
    · rw [if_pos c, if_pos (h.2.2.2 r j j0 hr (by omega) hj0 (c.trans e0.symm))]
    · rw [if_neg c, if_neg (fun e => c (by rw [e]; exact e0))]
  refine ⟨⟨h.1, h.2.1, fun q j hq hj => ?_, fun q i j hq hi hj e => ?_⟩, fun j hj => ?_⟩
  · by_cases c : q = r
    · subst c
      rw [del_z] at hj
      rw [key j hj]
      by_cases c2 : j = j0
      · rw [if_pos c2]; exact h.2.2.1 q _ hr (by omega)
      · rw [if_neg c2]; exact h.2.2.1 q _ hr (by omega)
    · rw [del_zn c] at hj
      rw [del_mn c]; exact h.2.2.1 q j hq hj
  · by_cases c : q = r
    · subst c
      rw [del_z] at hi hj
      rw [key i hi, key j hj] at e
      have a := fun x y => h.2.2.2 q x y hr
      by_cases ci : i = j0
      · by_cases cj : j = j0
        · omega
        · rw [if_pos ci, if_neg cj] at e
          have := a _ _ (by omega) (by omega) e
          omega
      · by_cases cj : j = j0
        · rw [if_neg ci, if_pos cj] at e
          have := a _ _ (by omega) (by omega) e
          omega
        · rw [if_neg ci, if_neg cj] at e
          exact a _ _ (by omega) (by omega) e
    · rw [del_zn c] at hi hj
      rw [del_mn c] at e
      exact h.2.2.2 q i j hq hi hj e
  · rw [del_z] at hj
    rw [key j hj]
    by_cases c2 : j = j0
    · rw [if_pos c2]
      intro e
      have := h.2.2.2 r _ _ hr (by omega) hj0 (e.trans e0.symm)
      omega
    · rw [if_neg c2]
      intro e
      exact c2 (h.2.2.2 r _ _ hr (by omega) hj0 (e.trans e0.symm))
/-- who lies where behind a removal -/
theorem del_in {R : mR} (h : okR R) {r k j0 : Nat} (hr : r < rN R) (hj0 : j0 < rZ R r) (e0 : rM R r j0 = k) {x : Nat} (hx : x ≠ k) : (∃ j, j < rZ (rowDel R r k) r ∧ rM (rowDel R r k) r j = x) ↔ ∃ j, j < rZ R r ∧ rM R r j = x := by
  constructor
  · rintro ⟨j, hj, e⟩
    rw [del_z] at hj
    rw [del_m] at e
    by_cases c : rM R r j = k
    · rw [if_pos c] at e; exact ⟨rZ R r - 1, by omega, e⟩
    · rw [if_neg c] at e; exact ⟨j, by omega, e⟩
  · rintro ⟨j, hj, e⟩
    by_cases c : j = rZ R r - 1
    · refine ⟨j0, ?_, ?_⟩
      · rw [del_z]
        have : j0 ≠ j := fun z => hx (by rw [← e, ← z]; exact e0)
        omega
      · rw [del_m, if_pos e0, ← c]; exact e
    · exact ⟨j, by rw [del_z]; omega, by rw [del_m, if_neg (by rw [e]; exact hx)]; exact e⟩
theorem ens_row {R : mR} (h : okR R) {d : Nat} (hd : d < 64) : okR (rowEns R d) ∧ row R d < rN (rowEns R d) ∧ rS (rowEns R d) (row R d) = d ∧ rN R ≤ rN (rowEns R d) ∧ (∀ r, r < rN R → rS (rowEns R d) r = rS R r ∧ rZ (rowEns R d) r = rZ R r) ∧ (∀ r, rM (rowEns R d) r = rM R r) ∧ (∀ r, r < rN (rowEns R d) → r < rN R ∨ (r = rN R ∧ r = row R d ∧ rZ (rowEns R d) r = 0)) := by
  have hle := row_le R d
  rcases Nat.lt_or_ge (row R d) (rN R) with c | c
  · have e : rowEns R d = R := if_pos c
    rw [e]
    exact ⟨h, c, row_at c, Nat.le_refl _, fun _ _ => ⟨rfl, rfl⟩, fun _ => rfl, fun r hr => Or.inl hr⟩
  · have e : rowEns R d = (rN R + 1, nu (rS R) (rN R) d, nu (rZ R) (rN R) 0, rM R) := if_neg (by omega)
    have hro : row R d = rN R := by omega
    rw [e, hro]
    have old : ∀ r, r < rN R + 1 → r ≠ rN R → r < rN R := fun r _ _ => by omega
    refine ⟨⟨fun r hr => ?_, fun r q hr hq e2 => ?_, fun r j hr hj => ?_, fun r i j hr hi hj e2 => ?_⟩, Nat.lt_succ_self _, nu_s, Nat.le_succ _, fun r hr => ⟨nu_n (by omega), nu_n (by omega)⟩, fun _ => rfl, fun r hr => ?_⟩
    · have hr : r < rN R + 1 := hr
      show nu (rS R) (rN R) d r < 64
      by_cases c2 : r = rN R
      · rw [c2, nu_s]; exact hd
      · rw [nu_n c2]; exact h.1 r (by omega)
    · have hr : r < rN R + 1 := hr
      have hq : q < rN R + 1 := hq
      have e2 : nu (rS R) (rN R) d r = nu (rS R) (rN R) d q := e2
      by_cases c2 : r = rN R
      · by_cases c3 : q = rN R
        · omega
        · rw [c2, nu_s, nu_n c3] at e2
          exact absurd e2.symm (row_no hro (by omega))
      · by_cases c3 : q = rN R
        · rw [c3, nu_s, nu_n c2] at e2
          exact absurd e2 (row_no hro (by omega))
        · rw [nu_n c2, nu_n c3] at e2
          exact h.2.1 r q (by omega) (by omega) e2
    · have hr : r < rN R + 1 := hr
      have hj : j < nu (rZ R) (rN R) 0 r := hj
      show rM R r j < 32
      by_cases c2 : r = rN R
      · rw [c2, nu_s] at hj; omega
      · rw [nu_n c2] at hj; exact h.2.2.1 r j (by omega) hj
    · have hr : r < rN R + 1 := hr
      have hi : i < nu (rZ R) (rN R) 0 r := hi
      have hj : j < nu (rZ R) (rN R) 0 r := hj
      have e2 : rM R r i = rM R r j := e2
      by_cases c2 : r = rN R
      · rw [c2, nu_s] at hj; omega
      · rw [nu_n c2] at hj hi; exact h.2.2.2 r i j (by omega) hi hj e2
    · have hr : r < rN R + 1 := hr
      by_cases c2 : r = rN R
      · exact Or.inr ⟨c2, c2, by rw [c2]; exact nu_s⟩
      · exact Or.inl (by omega)
theorem push_z {R : mR} {r k : Nat} : rZ (rowPush R r k) r = rZ R r + 1 := nu_s
theorem push_zn {R : mR} {r k q : Nat} (h : q ≠ r) : rZ (rowPush R r k) q = rZ R q := nu_n h
theorem push_m {R : mR} {r k j : Nat} : rM (rowPush R r k) r j = if j = rZ R r then k else rM R r j := by
  show nu (rM R) r _ r j = _
  rw [nu_s]; rfl
theorem push_mn {R : mR} {r k q : Nat} (h : q ≠ r) : rM (rowPush R r k) q = rM R q := nu_n h
/-- who comes to a row: the rows keep the order, told by their members -/
theorem InvR.add {E E1 : mE} {R : mR} (h : okR R) {k d : Nat} (hd : d < 64) (hk : k < 32) (hk1 : mAl E1 k = true) (hkd : mKd E1 k = d)
    (hmem : ∀ r j, r < rN R → j < rZ R r → rM R r j ≠ k ∧ mAl E1 (rM R r j) = true ∧ mKd E1 (rM R r j) = rS R r) (hall : ∀ x, mAl E1 x = true → x ≠ k → ∃ r j, r < rN R ∧ j < rZ R r ∧ rM R r j = x) : InvR E1 (rowAdd R d k) := by
  obtain ⟨g1, g2, g3, g4, g5, g6, g7⟩ := ens_row h hd
  have hm2 : ∀ r j, r < rN (rowEns R d) → j < rZ (rowEns R d) r → r < rN R ∧ j < rZ R r := by
    intro r j hr hj
    rcases g7 r hr with c | ⟨c1, c2, c3⟩
    · exact ⟨c, by rw [(g5 r c).2] at hj; exact hj⟩
    · omega
  have hlt : rZ (rowEns R d) (row R d) < 32 := g1.zlt g2 hk (fun j hj e => by
    obtain ⟨a, b⟩ := hm2 _ j g2 hj
    rw [g6] at e
    exact (hmem _ j a b).1 e)
  show InvR E1 (rowPush (rowEns R d) (row R d) k)
  refine ⟨g1.1, g1.2.1, fun r j hr hj => ?_, fun r i j hr hi hj e => ?_, fun x hx => ?_, g1.le, fun r hr => ?_⟩
  · have hr : r < rN (rowEns R d) := hr
    by_cases c : r = row R d
    · subst c
      rw [push_z] at hj
      rw [push_m]
      by_cases c2 : j = rZ (rowEns R d) (row R d)
      · rw [if_pos c2]; exact ⟨hk1, hkd.trans g3.symm⟩
      · rw [if_neg c2]
        obtain ⟨a, b⟩ := hm2 _ j hr (by omega)
        rw [g6]
        have := hmem _ j a b
        exact ⟨this.2.1, this.2.2.trans (g5 _ a).1.symm⟩
    · rw [push_zn c] at hj
      rw [push_mn c, g6]
      obtain ⟨a, b⟩ := hm2 _ j hr hj
      have := hmem _ j a b
      exact ⟨this.2.1, this.2.2.trans (g5 _ a).1.symm⟩
  · have hr : r < rN (rowEns R d) := hr
    by_cases c : r = row R d
    · subst c
      rw [push_z] at hi hj
      rw [push_m, push_m, g6] at e
      have old : ∀ y, y < rZ (rowEns R d) (row R d) → rM R (row R d) y ≠ k := fun y hy => by
        obtain ⟨a, b⟩ := hm2 _ y hr hy
        exact (hmem _ y a b).1
      by_cases ci : i = rZ (rowEns R d) (row R d)
      · by_cases cj : j = rZ (rowEns R d) (row R d)
        · omega
        · rw [if_pos ci, if_neg cj] at e
          exact absurd e.symm (old j (by omega))
      · by_cases cj : j = rZ (rowEns R d) (row R d)
        · rw [if_neg ci, if_pos cj] at e
          exact absurd e (old i (by omega))
        · rw [if_neg ci, if_neg cj] at e
          exact g1.2.2.2 (row R d) i j hr (by omega) (by omega) (by rw [g6]; exact e)
    · rw [push_zn c] at hi hj
      rw [push_mn c] at e
      exact g1.2.2.2 r i j hr hi hj e
  · by_cases c : x = k
    · refine ⟨row R d, rZ (rowEns R d) (row R d), g2, ?_, ?_⟩
      · rw [push_z]; exact Nat.lt_succ_self _
      · rw [push_m, if_pos rfl, c]
    · obtain ⟨r, j, hr, hj, e⟩ := hall x hx c
      have hz : j < rZ (rowEns R d) r := by rw [(g5 r hr).2]; exact hj
      refine ⟨r, j, Nat.lt_of_lt_of_le hr g4, ?_, ?_⟩
      · by_cases c2 : r = row R d
        · rw [c2, push_z, ← c2]; omega
        · rw [push_zn c2]; exact hz
      · by_cases c2 : r = row R d
        · rw [c2, push_m, if_neg (by rw [← c2]; omega), ← c2, g6]; exact e
        · rw [push_mn c2, g6]; exact e
  · have hr : r < rN (rowEns R d) := hr
    by_cases c : r = row R d
    · rw [c, push_z]; omega
    · rw [push_zn c]; exact g1.z hr
/-- the row of an entity that is there -/
theorem InvR.at {E : mE} {R : mR} (h : InvR E R) {k : Nat} (hk : mAl E k = true) : ∃ j0, row R (mKd E k) < rN R ∧ rS R (row R (mKd E k)) = mKd E k ∧ j0 < rZ R (row R (mKd E k)) ∧ rM R (row R (mKd E k)) j0 = k := by
  obtain ⟨r, j, hr, hj, e⟩ := h.2.2.2.2.1 k hk
  have h3 := (h.2.2.1 r j hr hj).2
  rw [e] at h3
  have hrow := row_of h.2.1 hr h3.symm
  rw [hrow]
  exact ⟨j, hr, h3.symm, hj, e⟩
theorem InvR.only {E : mE} {R : mR} (h : InvR E R) {k r j : Nat} (hr : r < rN R) (hj : j < rZ R r) (e : rM R r j = k) : row R (mKd E k) = r := by
  have h3 := (h.2.2.1 r j hr hj).2
  rw [e] at h3
  exact row_of h.2.1 hr h3.symm
/-- an entity leaves its row -/
theorem leave_mem {E : mE} {R : mR} (hE : InvE E) (h : InvR E R) {k : Nat} (hk : mAl E k = true) : okR (rowDel R (row R (mKd E k)) k) ∧ (∀ r j, r < rN R → j < rZ (rowDel R (row R (mKd E k)) k) r → rM (rowDel R (row R (mKd E k)) k) r j ≠ k ∧ mAl E (rM (rowDel R (row R (mKd E k)) k) r j) = true ∧ mKd E (rM (rowDel R (row R (mKd E k)) k) r j) = rS R r) ∧ (∀ x, mAl E x = true → x ≠ k → ∃ r j, r < rN R ∧ j < rZ (rowDel R (row R (mKd E k)) k) r ∧ rM (rowDel R (row R (mKd E k)) k) r j = x) := by
  obtain ⟨j0, a1, a2, a3, a4⟩ := h.at hk
  obtain ⟨b1, b2⟩ := (h.ok hE).del a1 a3 a4
  refine ⟨b1, fun r j hr hj => ?_, fun x hx hxk => ?_⟩
  · by_cases c : r = row R (mKd E k)
    · subst c
      have ne := b2 j hj
      refine ⟨ne, ?_⟩
      obtain ⟨j2, g1, g2⟩ := (del_in (h.ok hE) a1 a3 a4 ne).mp ⟨j, hj, rfl⟩
      rw [← g2]
      exact h.2.2.1 _ j2 a1 g1
    · rw [del_zn c] at hj
      rw [del_mn c]
      exact ⟨fun e => c (h.only hr hj e).symm, h.2.2.1 r j hr hj⟩
  · obtain ⟨r, j, hr, hj, e⟩ := h.2.2.2.2.1 x hx
    by_cases c : r = row R (mKd E k)
    · subst c
      obtain ⟨j2, g1, g2⟩ := (del_in (h.ok hE) a1 a3 a4 hxk).mpr ⟨j, hj, e⟩
      exact ⟨_, j2, a1, g1, g2⟩
    · exact ⟨r, j, hr, by rw [del_zn c]; exact hj, by rw [del_mn c]; exact e⟩
theorem becomes_inv {E : mE} {R : mR} (hE : InvE E) (h : InvR E R) {k d : Nat} (hk : mAl E k = true) (hd : d < 64) : InvE (becomesE E k d) ∧ InvR (becomesE E k d) (becomesR E R k d) := by
  obtain ⟨b1, b2, b3⟩ := leave_mem hE h hk
  obtain ⟨e1, e2, e3, e4, e5⟩ := hE
  refine ⟨⟨fun x => ?_, e2, fun x hx => ?_, e4, e5⟩, InvR.add (E := E) b1 hd (e2 k hk) hk nu_s (fun r j hr hj => ?_) (fun x hx hxk => b3 x hx hxk)⟩
  · show nu (mKd E) k d x < 64
    by_cases c : x = k
    · rw [c, nu_s]; exact hd
    · rw [nu_n c]; exact e1 x
  · have hx : mAl E x = false := hx
    have c : x ≠ k := fun z => by rw [z, hk] at hx; cases hx
    exact ⟨by show nu (mKd E) k d x = 0; rw [nu_n c]; exact (e3 x hx).1, (e3 x hx).2⟩
  · obtain ⟨c1, c2, c3⟩ := b2 r j hr hj
    exact ⟨c1, c2, by show nu (mKd E) k d _ = _; rw [nu_n c1]; exact c3⟩
theorem makes_inv {E : mE} {R : mR} (hE : InvE E) (h : InvR E R) {k : Nat} (hk : mAl E k = false) (hk32 : k < 32) : InvE (makesE E k) ∧ InvR (makesE E k) (rowAdd R 0 k) := by
  have hok := h.ok hE
  obtain ⟨e1, e2, e3, e4, dp, e5⟩ := hE
  refine ⟨⟨fun x => ?_, fun x hx => ?_, fun x hx => ?_, fun x j hx => ?_, dp, fun x j hx => ?_⟩, InvR.add (E := E) hok (by decide) hk32 nu_s nu_s (fun r j hr hj => ?_) (fun x hx hxk => ?_)⟩
  · show nu (mKd E) k 0 x < 64
    by_cases c : x = k
    · rw [c, nu_s]; decide
    · rw [nu_n c]; exact e1 x
  · have hx : nu (mAl E) k true x = true := hx
    by_cases c : x = k
    · omega
    · rw [nu_n c] at hx; exact e2 x hx
  · have hx : nu (mAl E) k true x = false := hx
    by_cases c : x = k
    · rw [c, nu_s] at hx; cases hx
    · rw [nu_n c] at hx
      exact ⟨by show nu (mKd E) k 0 x = 0; rw [nu_n c]; exact (e3 x hx).1, by show nu (mPar E) k none x = none; rw [nu_n c]; exact (e3 x hx).2⟩
  · have hx : nu (mPar E) k none x = some j := hx
    by_cases c : x = k
    · rw [c, nu_s] at hx; cases hx
    · rw [nu_n c] at hx
      have := e4 x j hx
      show nu (mAl E) k true j = true
      by_cases c2 : j = k
      · rw [c2, nu_s]
      · rw [nu_n c2]; exact this
  · have hx : nu (mPar E) k none x = some j := hx
    by_cases c : x = k
    · rw [c, nu_s] at hx; cases hx
    · rw [nu_n c] at hx; exact e5 x j hx
  · have := h.2.2.1 r j hr hj
    have ne : rM R r j ≠ k := fun z => by rw [z, hk] at this; exact absurd this.1 (by decide)
    exact ⟨ne, by show nu (mAl E) k true _ = true; rw [nu_n ne]; exact this.1, by show nu (mKd E) k 0 _ = _; rw [nu_n ne]; exact this.2⟩
  · have hx : nu (mAl E) k true x = true := hx
    rw [nu_n hxk] at hx
    exact h.2.2.2.2.1 x hx
theorem put_invE {E : mE} (hE : InvE E) (s k : Nat) (v t : Int32) : InvE (putE E s k v t) := hE
theorem put_invR {E : mE} {R : mR} (h : InvR E R) (s k : Nat) (v t : Int32) : InvR (putE E s k v t) R := h
/-- one entity ends: all but the tie to parents that have ended -/
def InvE0 (E : mE) : Prop := (∀ k, mKd E k < 64) ∧ (∀ k, mAl E k = true → k < 32) ∧ (∀ k, mAl E k = false → mKd E k = 0 ∧ mPar E k = none) ∧ ∃ dp : Nat → Nat, ∀ k j, mPar E k = some j → dp j < dp k ∧ j < 32
theorem leave0 {E : mE} {R : mR} (hE : InvE0 E) (h : InvR E R) {k : Nat} (hk : mAl E k = true) : InvE0 (endE E k) ∧ InvR (endE E k) (endR E R k) := by
  obtain ⟨j0, a1, a2, a3, a4⟩ := h.at hk
  have hok : okR R := ⟨h.1, h.2.1, fun r j hr hj => hE.2.1 _ (h.2.2.1 r j hr hj).1, h.2.2.2.1⟩
  obtain ⟨b1, b2⟩ := hok.del a1 a3 a4
  obtain ⟨e1, e2, e3, dp, e5⟩ := hE
  have mem : ∀ r j, r < rN R → j < rZ (endR E R k) r → rM (endR E R k) r j ≠ k ∧ mAl E (rM (endR E R k) r j) = true ∧ mKd E (rM (endR E R k) r j) = rS R r := by
    intro r j hr hj
    rw [show endR E R k = rowDel R (row R (mKd E k)) k from rfl] at hj ⊢
    by_cases c : r = row R (mKd E k)
    · subst c
      have ne := b2 j hj
      refine ⟨ne, ?_⟩
      obtain ⟨j2, g1, g2⟩ := (del_in hok a1 a3 a4 ne).mp ⟨j, hj, rfl⟩
      rw [← g2]
      exact h.2.2.1 _ j2 a1 g1
    · rw [del_zn c] at hj
      rw [del_mn c]
      exact ⟨fun e => c (h.only hr hj e).symm, h.2.2.1 r j hr hj⟩
  refine ⟨⟨fun x => ?_, fun x hx => ?_, fun x hx => ?_, dp, fun x j hx => ?_⟩, b1.1, b1.2.1, fun r j hr hj => ?_, b1.2.2.2, fun x hx => ?_, b1.le, fun r hr => b1.z hr⟩
  · show nu (mKd E) k 0 x < 64
    by_cases c : x = k
    · rw [c, nu_s]; decide
    · rw [nu_n c]; exact e1 x
  · have hx : nu (mAl E) k false x = true := hx
    by_cases c : x = k
    · rw [c, nu_s] at hx; cases hx
    · rw [nu_n c] at hx; exact e2 x hx
  · have hx : nu (mAl E) k false x = false := hx
    by_cases c : x = k
    · rw [c]; exact ⟨nu_s, nu_s⟩
    · rw [nu_n c] at hx
      exact ⟨by show nu (mKd E) k 0 x = 0; rw [nu_n c]; exact (e3 x hx).1, by show nu (mPar E) k none x = none; rw [nu_n c]; exact (e3 x hx).2⟩
  · have hx : nu (mPar E) k none x = some j := hx
    by_cases c : x = k
    · rw [c, nu_s] at hx; cases hx
    · rw [nu_n c] at hx; exact e5 x j hx
  · obtain ⟨c1, c2, c3⟩ := mem r j hr hj
    exact ⟨by show nu (mAl E) k false _ = true; rw [nu_n c1]; exact c2, by show nu (mKd E) k 0 _ = _; rw [nu_n c1]; exact c3⟩
  · have hx : nu (mAl E) k false x = true := hx
    have hxk : x ≠ k := fun z => by rw [z, nu_s] at hx; cases hx
    rw [nu_n hxk] at hx
    obtain ⟨r, j, hr, hj, e⟩ := h.2.2.2.2.1 x hx
    by_cases c : r = row R (mKd E k)
    · subst c
      obtain ⟨j2, g1, g2⟩ := (del_in hok a1 a3 a4 hxk).mpr ⟨j, hj, e⟩
      exact ⟨_, j2, a1, g1, g2⟩
    · exact ⟨r, j, hr, by show j < rZ (rowDel R (row R (mKd E k)) k) r; rw [del_zn c]; exact hj, by show rM (rowDel R (row R (mKd E k)) k) r j = x; rw [del_mn c]; exact e⟩
theorem mem_kidsF {E : mE} {s k : Nat} : ∀ {n : Nat}, n ≤ 32 → (k ∈ kidsF E s n ↔ mPar E k = some s ∧ 32 - n ≤ k ∧ k < 32) := by
  intro n
  induction n with
  | zero => intro _; exact ⟨fun h => (List.not_mem_nil h).elim, fun h => by omega⟩
  | succ n ih =>
    intro hn
    unfold kidsF
    by_cases c : mPar E (31 - n) = some s
    · rw [if_pos c, List.mem_cons, ih (by omega)]
      constructor
      · rintro (rfl | ⟨a, b, d⟩)
        · exact ⟨c, by omega, by omega⟩
        · exact ⟨a, by omega, d⟩
      · rintro ⟨a, b, d⟩
        by_cases e : k = 31 - n
        · exact Or.inl e
        · exact Or.inr ⟨a, by omega, d⟩
    · rw [if_neg c, ih (by omega)]
      constructor
      · rintro ⟨a, b, d⟩; exact ⟨a, by omega, d⟩
      · rintro ⟨a, b, d⟩
        have : k ≠ 31 - n := fun z => c (by rw [← z]; exact a)
        exact ⟨a, by omega, d⟩
theorem nodup_kidsF {E : mE} {s : Nat} : ∀ {n : Nat}, n ≤ 32 → (kidsF E s n).Nodup := by
  intro n
  induction n with
  | zero => intro _; exact List.nodup_nil
  | succ n ih =>
    intro hn
    unfold kidsF
    by_cases c : mPar E (31 - n) = some s
    · rw [if_pos c]
      refine List.nodup_cons.mpr ⟨fun h => ?_, ih (by omega)⟩
      have := (mem_kidsF (by omega)).mp h
      omega
    · rw [if_neg c]; exact ih (by omega)
/-- the pile of those that end -/
def InvP (E : mE) (st : List Nat) : Prop := st.Nodup ∧ (∀ k ∈ st, mAl E k = true) ∧ (∀ k ∈ st.tail, ∀ j, mPar E k = some j → mAl E j = false) ∧ ∀ k j, mPar E k = some j → mAl E j = true ∨ k ∈ st
theorem InvP.step {E : mE} (hE : InvE0 E) {s : Nat} {st : List Nat} (h : InvP E (s :: st)) : InvP (endE E s) (kidsF E s 32 ++ st) := by
  obtain ⟨h1, h2, h3, h4⟩ := h
  obtain ⟨e1, e2, e3, dp, e5⟩ := hE
  obtain ⟨n1, n2⟩ := List.nodup_cons.mp h1
  have hs := h2 s List.mem_cons_self
  have kid : ∀ k, k ∈ kidsF E s 32 → mPar E k = some s ∧ mAl E k = true ∧ k ≠ s ∧ k ∉ st := by
    intro k hk
    obtain ⟨a, -, -⟩ := (mem_kidsF (Nat.le_refl _)).mp hk
    refine ⟨a, ?_, fun z => ?_, fun z => ?_⟩
    · cases q : mAl E k with
      | true => rfl
      | false => rw [(e3 k q).2] at a; cases a
    · rw [z] at a; exact absurd (e5 s s a).1 (Nat.lt_irrefl _)
    · have := h3 k z s a
      rw [hs] at this; cases this
  have al : ∀ k, k ≠ s → mAl (endE E s) k = mAl E k := fun k hk => nu_n hk
  have pa : ∀ k, k ≠ s → mPar (endE E s) k = mPar E k := fun k hk => nu_n hk
  have old : ∀ k ∈ kidsF E s 32 ++ st, k ≠ s ∧ mAl E k = true ∧ ∀ j, mPar E k = some j → mAl (endE E s) j = false := by
    intro k hk
    rcases List.mem_append.mp hk with q | q
    · obtain ⟨a, b, c, d⟩ := kid k q
      refine ⟨c, b, fun j hj => ?_⟩
      rw [a] at hj
      obtain rfl := Option.some.inj hj
      exact nu_s
    · have hne : k ≠ s := fun z => n1 (by rw [← z]; exact q)
      refine ⟨hne, h2 k (List.mem_cons_of_mem _ q), fun j hj => ?_⟩
      by_cases c : j = s
      · rw [c]; exact nu_s
      · rw [al j c]; exact h3 k q j hj
  refine ⟨List.nodup_append.mpr ⟨nodup_kidsF (Nat.le_refl _), n2, fun a ha b hb e => (kid a ha).2.2.2 (by rw [e]; exact hb)⟩, fun k hk => ?_, fun k hk j hj => ?_, fun k j hj => ?_⟩
  · obtain ⟨a, b, -⟩ := old k hk
    rw [al k a]; exact b
  · obtain ⟨a, b, c⟩ := old k (List.mem_of_mem_tail hk)
    rw [pa k a] at hj
    exact c j hj
  · have hne : k ≠ s := fun z => by
      have : nu (mPar E) s none k = some j := hj
      rw [z, nu_s] at this; cases this
    rw [pa k hne] at hj
    by_cases c : j = s
    · right
      rw [c] at hj
      have hal : mAl E k = true := by
        cases q : mAl E k with
        | true => rfl
        | false => rw [(e3 k q).2] at hj; cases hj
      exact List.mem_append_left _ ((mem_kidsF (Nat.le_refl _)).mpr ⟨hj, by omega, e2 k hal⟩)
    · rcases h4 k j hj with q | q
      · left; rw [al j c]; exact q
      · right
        rcases List.mem_cons.mp q with z | z
        · exact absurd z hne
        · exact List.mem_append_right _ z
theorem cnt_upd (f : Nat → Bool) {s : Nat} (hs : f s = true) : ∀ n, cnt (nu f s false) n + (if s < n then 1 else 0) = cnt f n := by
  intro n
  induction n with
  | zero => rfl
  | succ n ih =>
    unfold cnt
    by_cases c : n = s
    · subst c
      rw [if_neg (Nat.lt_irrefl _)] at ih
      rw [nu_s, if_neg (by decide), hs, if_pos rfl, if_pos (Nat.lt_succ_self _)]
      omega
    · rw [nu_n c]
      by_cases c2 : s < n
      · rw [if_pos c2] at ih
        rw [if_pos (show s < n + 1 by omega)]
        omega
      · rw [if_neg c2] at ih
        rw [if_neg (show ¬ s < n + 1 by omega)]
        omega
theorem cnt_le (f : Nat → Bool) : ∀ n, cnt f n ≤ n := by
  intro n
  induction n with
  | zero => exact Nat.le_refl _
  | succ n ih =>
    unfold cnt
    by_cases c : f n = true
    · rw [if_pos c]; omega
    · rw [if_neg c]; omega
/-- where the fuel is enough, the pile is emptied, and the order holds again -/
theorem endsL_inv : ∀ (n : Nat) (st : List Nat) (E : mE) (R : mR) (c : Nat), InvE0 E → InvR E R → InvP E st → cnt (mAl E) 32 < n → InvE (endsL n st E R c).1 ∧ InvR (endsL n st E R c).1 (endsL n st E R c).2.1 ∧ (∀ k, mHad (endsL n st E R c).1 k ≤ mHad E k + n) ∧ ∀ k, mHad E k ≤ mHad (endsL n st E R c).1 k := by
  intro n
  induction n with
  | zero => intro st E R c _ _ _ h; exact absurd h (Nat.not_lt_zero _)
  | succ n ih =>
    intro st E R c hE hR hP hn
    cases st with
    | nil =>
      unfold endsL
      obtain ⟨dp, hdp⟩ := hE.2.2.2
      refine ⟨⟨hE.1, hE.2.1, hE.2.2.1, fun k j hj => ?_, dp, fun k j hj => (hdp k j hj).1⟩, hR, fun k => Nat.le_add_right _ _, fun k => Nat.le_refl _⟩
      rcases hP.2.2.2 k j hj with q | q
      · exact q
      · cases q
    | cons s st =>
      unfold endsL
      have hs := hP.2.1 s List.mem_cons_self
      obtain ⟨a, b⟩ := leave0 hE hR hs
      have hc := cnt_upd (mAl E) hs 32
      rw [if_pos (hE.2.1 s hs)] at hc
      obtain ⟨g1, g2, g3, g4⟩ := ih (kidsF E s 32 ++ st) (endE E s) (endR E R s) (c + 1) a b (hP.step hE) (by show cnt (nu (mAl E) s false) 32 < n; omega)
      refine ⟨g1, g2, fun k => ?_, fun k => ?_⟩
      · have := g3 k
        have : mHad (endE E s) k ≤ mHad E k + 1 := by
          show nu (mHad E) s (mHad E s + 1) k ≤ _
          by_cases q : k = s
          · rw [q, nu_s]; exact Nat.le_refl _
          · rw [nu_n q]; omega
        omega
      · have := g4 k
        have : mHad E k ≤ mHad (endE E s) k := by
          show _ ≤ nu (mHad E) s (mHad E s + 1) k
          by_cases q : k = s
          · rw [q, nu_s]; omega
          · rw [nu_n q]; exact Nat.le_refl _
        omega
theorem InvE.to0 {E : mE} (h : InvE E) : InvE0 E := by
  obtain ⟨h1, h2, h3, h4, dp, h5⟩ := h
  exact ⟨h1, h2, h3, dp, fun k j hj => ⟨h5 k j hj, h2 j (h4 k j hj)⟩⟩
theorem InvP.one {E : mE} (h : InvE E) {s : Nat} (hs : mAl E s = true) : InvP E [s] := ⟨List.nodup_cons.mpr ⟨List.not_mem_nil, List.nodup_nil⟩, fun k hk => by rw [List.mem_singleton.mp hk]; exact hs, fun k hk => (List.not_mem_nil hk).elim, fun k j hj => Or.inl (h.2.2.2.1 k j hj)⟩
theorem ends_inv {E : mE} {R : mR} (hE : InvE E) (h : InvR E R) {s : Nat} (hs : mAl E s = true) : InvE (ends E R s).1 ∧ InvR (ends E R s).1 (ends E R s).2.1 ∧ (∀ k, mHad (ends E R s).1 k ≤ mHad E k + 40) ∧ ∀ k, mHad E k ≤ mHad (ends E R s).1 k :=
  endsL_inv 40 [s] E R 0 hE.to0 h (InvP.one hE hs) (by have := cnt_le (mAl E) 32; omega)
