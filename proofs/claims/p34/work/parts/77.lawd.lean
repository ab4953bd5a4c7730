/-! the law's own numbers: how its arrays tell the store -/
theorem bI_e1 {b : Bool} (h : bI b = nI 1) : b = true := by cases b; exact absurd h (by decide); rfl
theorem bI_n1 {b : Bool} (h : ¬ bI b = nI 1) : b = false := by cases b; rfl; exact absurd rfl h
def iv (F : Nat → Int32) (k : Nat) : Bool := decide (F (6 * k) = nI 1)
def inRow (F : Nat → Int32) (x : Int32) (k : Nat) : Bool := iv F k && decide (F (6 * k + 4) = x)
def inPl (F : Nat → Int32) (x p : Int32) (k : Nat) : Bool := inRow F x k && decide (F (6 * k + 5) = p)
def isFst (f : Nat → Bool) (n : Nat) (o : Option Nat) : Prop := match o with
  | none => ∀ j, j < n → f j = false
  | some k => k < n ∧ f k = true ∧ ∀ j, j < k → f j = false
def lvF (F : Nat → Int32) (k q : Nat) : Nat → Int32 := upd (upd F (6 * q + 5) (F (6 * k + 5))) (6 * k + 4) (-1)
def enF (F : Nat → Int32) (k d r z : Nat) : Nat → Int32 := upd (upd (upd F (6 * k + 2) (nI d)) (6 * k + 4) (nI r)) (6 * k + 5) (nI z)
def mwF (F : Nat → Int32) (k : Nat) : Nat → Int32 := upd (upd (upd F (6 * k) (nI 1)) (6 * k + 3) (-1)) (6 * k + 4) (-1)
def edF (F : Nat → Int32) (k q h : Nat) : Nat → Int32 := upd (upd (lvF F k q) (6 * k) (nI 0)) (6 * k + 1) (nI (h + 1))
/-- entities: who is there, generations, sets, owners, values, marks -/
def LE (Y : Nat → Nat → Int32) (E : mE) : Prop := (∀ k, k < 10 → Y 1 (6 * k) = bI (mAl E k)) ∧ (∀ k, k < 10 → Y 1 (6 * k + 1) = nI (mHad E k)) ∧ (∀ k, k < 10 → mAl E k = true → Y 1 (6 * k + 2) = nI (mKd E k)) ∧ (∀ k, k < 10 → mAl E k = true → Y 1 (6 * k + 3) = nO (mPar E k)) ∧ (∀ k, mAl E k = true → k < 10) ∧ (∀ k i, k < 10 → i < 6 → Y 2 (6 * k + i) = mVal E k i) ∧ ∀ k i, k < 10 → i < 6 → Y 3 (6 * k + i) = mMk E k i
def LRw (Y : Nat → Nat → Int32) (R : mR) : Prop := Y 9 0 = nI (rN R) ∧ ∀ r, r < rN R → Y 4 r = nI (rS R r)
/-- rows and places, by who is there -/
def LPw (F : Nat → Int32) (al : Nat → Bool) (R : mR) : Prop := (∀ r j, r < rN R → j < rZ R r → F (6 * rM R r j + 4) = nI r ∧ F (6 * rM R r j + 5) = nI j) ∧ (∀ r j, r < rN R → j < rZ R r → al (rM R r j) = true) ∧ ∀ k, al k = true → (∃ r j, r < rN R ∧ j < rZ R r ∧ rM R r j = k) ∨ F (6 * k + 4) = -1
def LTw (Y : Nat → Nat → Int32) (E : mE) (R : mR) : Prop := LE Y E ∧ LRw Y R ∧ LPw (Y 1) (mAl E) R
theorem upd_s {f : Nat → Int32} {i : Nat} {v : Int32} : upd f i v i = v := if_pos rfl
theorem upd_n {f : Nat → Int32} {i j : Nat} {v : Int32} (h : j ≠ i) : upd f i v j = f j := if_neg h
theorem lv_a {F : Nat → Int32} {k q j : Nat} (h1 : j ≠ 6 * k + 4) (h2 : j ≠ 6 * q + 5) : lvF F k q j = F j := (upd_n h1).trans (upd_n h2)
theorem en_a {F : Nat → Int32} {k d r z j : Nat} (h1 : j ≠ 6 * k + 2) (h2 : j ≠ 6 * k + 4) (h3 : j ≠ 6 * k + 5) : enF F k d r z j = F j := (upd_n h3).trans ((upd_n h2).trans (upd_n h1))
theorem en_2 {F : Nat → Int32} {k d r z : Nat} : enF F k d r z (6 * k + 2) = nI d := (upd_n (by omega)).trans ((upd_n (by omega)).trans upd_s)
theorem en_4 {F : Nat → Int32} {k d r z : Nat} : enF F k d r z (6 * k + 4) = nI r := (upd_n (by omega)).trans upd_s
theorem en_5 {F : Nat → Int32} {k d r z : Nat} : enF F k d r z (6 * k + 5) = nI z := upd_s
theorem mk_a {F : Nat → Int32} {k j : Nat} (h1 : j ≠ 6 * k) (h2 : j ≠ 6 * k + 3) (h3 : j ≠ 6 * k + 4) : mwF F k j = F j := (upd_n h3).trans ((upd_n h2).trans (upd_n h1))
theorem mk_0 {F : Nat → Int32} {k : Nat} : mwF F k (6 * k) = nI 1 := (upd_n (by omega)).trans ((upd_n (by omega)).trans upd_s)
theorem mk_3 {F : Nat → Int32} {k : Nat} : mwF F k (6 * k + 3) = -1 := (upd_n (by omega)).trans upd_s
theorem mk_4 {F : Nat → Int32} {k : Nat} : mwF F k (6 * k + 4) = -1 := upd_s
theorem ed_a {F : Nat → Int32} {k q h j : Nat} (h1 : j ≠ 6 * k) (h2 : j ≠ 6 * k + 1) : edF F k q h j = lvF F k q j := (upd_n h2).trans (upd_n h1)
theorem ed_0 {F : Nat → Int32} {k q h : Nat} : edF F k q h (6 * k) = nI 0 := (upd_n (by omega)).trans upd_s
theorem ed_1 {F : Nat → Int32} {k q h : Nat} : edF F k q h (6 * k + 1) = nI (h + 1) := upd_s
theorem iv_al {F : Nat → Int32} {al : Nat → Bool} (ha : ∀ k, k < 10 → F (6 * k) = bI (al k)) {k : Nat} (hk : k < 10) : iv F k = al k := by
  unfold iv
  rw [ha k hk]
  cases al k <;> decide
theorem cnt_10 {f : Nat → Bool} (h : ∀ k, 10 ≤ k → f k = false) : ∀ m, 10 ≤ m → cnt f m = cnt f 10 := by
  intro m
  induction m with
  | zero => intro hm; exact absurd hm (by decide)
  | succ i ih =>
    intro hm
    by_cases c : 10 ≤ i
    · rw [cnt_f (h i c)]; exact ih c
    · have : i + 1 = 10 := by omega
      rw [this]
theorem nI_ne {a b : Nat} (ha : a < 2 ^ 31) (hb : b < 2 ^ 31) (h : nI a = nI b) : a = b := (nI_eq ha hb).mp h
section LPS
variable {F : Nat → Int32} {al : Nat → Bool} {R : mR}
/-- rows and places tell apart -/
theorem LPw.inj (hP : LPw F al R) (ok : okR R) {r j r2 j2 : Nat} (hr : r < rN R) (hj : j < rZ R r) (hr2 : r2 < rN R) (hj2 : j2 < rZ R r2) (e : rM R r j = rM R r2 j2) : r = r2 ∧ j = j2 := by
  have a := hP.1 r j hr hj
  have b := hP.1 r2 j2 hr2 hj2
  rw [e] at a
  have h64 := ok.le
  have z1 := ok.z hr
  have z2 := ok.z hr2
  exact ⟨nI_ne (by omega) (by omega) (a.1.symm.trans b.1), nI_ne (by omega) (by omega) (a.2.symm.trans b.2)⟩
theorem LPw.rowOf (hP : LPw F al R) (ok : okR R) (ha : ∀ k, k < 10 → F (6 * k) = bI (al k)) {k r : Nat} (hk : k < 10) (hr : r < 2 ^ 31) (h : inRow F (nI r) k = true) : ∃ j, r < rN R ∧ j < rZ R r ∧ rM R r j = k := by
  unfold inRow at h
  rw [iv_al ha hk] at h
  have h1 : al k = true := by cases e : al k; rw [e] at h; cases h; rfl
  have h2 : F (6 * k + 4) = nI r := by rw [h1] at h; exact of_decide_eq_true h
  have h64 := ok.le
  rcases hP.2.2 k h1 with ⟨r2, j2, hr2, hj2, e2⟩ | h3
  · have := (hP.1 r2 j2 hr2 hj2).1
    rw [e2] at this
    have er : r2 = r := nI_ne (by omega) hr (this.symm.trans h2)
    subst er
    exact ⟨j2, hr2, hj2, e2⟩
  · exact absurd (h2.symm.trans h3) (nI_m1 hr)
theorem LPw.mem (hP : LPw F al R) (ha : ∀ k, k < 10 → F (6 * k) = bI (al k)) {r j : Nat} (h10 : ∀ k, al k = true → k < 10) (hr : r < rN R) (hj : j < rZ R r) : inRow F (nI r) (rM R r j) = true := by
  have h1 := hP.2.1 r j hr hj
  have h2 := hP.1 r j hr hj
  unfold inRow
  rw [iv_al ha (h10 _ h1), h1, h2.1, decide_eq_true rfl]
  rfl
theorem LPw.many (hP : LPw F al R) (ok : okR R) (ha : ∀ k, k < 10 → F (6 * k) = bI (al k)) (h10 : ∀ k, al k = true → k < 10) {r : Nat} (hr : r < rN R) : cnt (inRow F (nI r)) 10 = rZ R r := by
  have h64 := ok.le
  have hz := ok.z hr
  have h1 := cnt_enum (fun _ => true) (rM R r) (rZ R r) (fun k => decide (k < 10) && inRow F (nI r) k) (fun p hp => by have := h10 _ (hP.2.1 r p hr hp); omega)
    (fun p q hp hq e => (hP.inj ok hr hp hr hq e).2) (fun k hk => ⟨fun h => by
      have hk10 : k < 10 := by
        by_cases c : k < 10
        · exact c
        · rw [decide_eq_false c] at h; cases h
      rw [decide_eq_true hk10] at h
      obtain ⟨j, -, hj, e⟩ := hP.rowOf ok ha hk10 (by omega) h
      exact ⟨j, hj, e⟩, fun h => by
      obtain ⟨j, hj, e⟩ := h
      subst e
      rw [decide_eq_true (h10 _ (hP.2.1 r j hr hj)), hP.mem ha h10 hr hj]
      rfl⟩)
  rw [cnt_all] at h1
  rw [h1, cnt_10 (fun k hk => by show (true && (decide (k < 10) && _)) = false; rw [decide_eq_false (by omega)]; rfl) 32 (by decide)]
  exact cnt_same 10 (fun k hk => by show _ = (true && (decide (k < 10) && _)); rw [decide_eq_true hk]; rfl)
theorem LPw.many0 (hP : LPw F al R) (ok : okR R) (ha : ∀ k, k < 10 → F (6 * k) = bI (al k)) {r : Nat} (hr : rN R ≤ r) (hr2 : r < 2 ^ 31) : cnt (inRow F (nI r)) 10 = 0 := by
  refine cnt_none 10 (fun k hk => ?_)
  cases e : inRow F (nI r) k with
  | false => rfl
  | true =>
    obtain ⟨j, h1, -⟩ := hP.rowOf ok ha hk hr2 e
    omega
theorem LPw.at (hP : LPw F al R) (ok : okR R) (ha : ∀ k, k < 10 → F (6 * k) = bI (al k)) (h10 : ∀ k, al k = true → k < 10) {r j : Nat} (hr : r < rN R) (hj : j < rZ R r) {o : Option Nat} (ho : isFst (inPl F (nI r) (nI j)) 10 o) : o = some (rM R r j) := by
  have h64 := ok.le
  have hz := ok.z hr
  have hme : inPl F (nI r) (nI j) (rM R r j) = true := by
    unfold inPl
    rw [hP.mem ha h10 hr hj, (hP.1 r j hr hj).2, decide_eq_true rfl]
    rfl
  have hme10 := h10 _ (hP.2.1 r j hr hj)
  have huni : ∀ k, k < 10 → inPl F (nI r) (nI j) k = true → k = rM R r j := by
    intro k hk h
    unfold inPl at h
    have h1 : inRow F (nI r) k = true := by cases e : inRow F (nI r) k; rw [e] at h; cases h; rfl
    rw [h1] at h
    have h2 : F (6 * k + 5) = nI j := of_decide_eq_true h
    obtain ⟨j2, -, hj2, e2⟩ := hP.rowOf ok ha hk (by omega) h1
    have h3 := (hP.1 r j2 hr hj2).2
    rw [e2] at h3
    have : j2 = j := nI_ne (by omega) (by omega) (h3.symm.trans h2)
    rw [← e2, this]
  cases o with
  | none => exact absurd (ho _ hme10) (by rw [hme]; decide)
  | some k => rw [huni k ho.1 ho.2.1]
/-- past the end of a row nobody is -/
theorem LPw.atN (hP : LPw F al R) (ok : okR R) (ha : ∀ k, k < 10 → F (6 * k) = bI (al k)) {r j : Nat} (hr : r < 2 ^ 31) (hj : r < rN R → rZ R r ≤ j) (hj2 : j < 2 ^ 31) {o : Option Nat} (ho : isFst (inPl F (nI r) (nI j)) 10 o) : o = none := by
  cases o with
  | none => rfl
  | some k =>
    exfalso
    obtain ⟨hk, h, -⟩ := ho
    unfold inPl at h
    have h1 : inRow F (nI r) k = true := by cases e : inRow F (nI r) k; rw [e] at h; cases h; rfl
    rw [h1] at h
    have h2 : F (6 * k + 5) = nI j := of_decide_eq_true h
    obtain ⟨j2, hr2, hj3, e2⟩ := hP.rowOf ok ha hk hr h1
    have h3 := (hP.1 r j2 hr2 hj3).2
    rw [e2] at h3
    have hz := ok.z hr2
    have : j2 = j := nI_ne (by omega) (by omega) (h3.symm.trans h2)
    have := hj hr2
    omega
theorem LPw.cong (hP : LPw F al R) {F1 : Nat → Int32} (h : ∀ k, F1 (6 * k + 4) = F (6 * k + 4) ∧ F1 (6 * k + 5) = F (6 * k + 5)) : LPw F1 al R := ⟨fun r j hr hj => ⟨(h _).1.trans (hP.1 r j hr hj).1, (h _).2.trans (hP.1 r j hr hj).2⟩, hP.2.1, fun k hk => (hP.2.2 k hk).imp id (fun e => (h k).1.trans e)⟩
/-- one leaves: the last one takes its place -/
theorem LPw.leave (hP : LPw F al R) (ok : okR R) {r0 j0 z k q : Nat} (hr : r0 < rN R) (hj : j0 < rZ R r0) (hk : rM R r0 j0 = k) (hz : rZ R r0 = z + 1) (hq : rM R r0 z = q) : LPw (lvF F k q) al (rowDel R r0 k) := by
  have h64 := ok.le
  have hz32 := ok.z hr
  have hkq : j0 ≠ z → k ≠ q := fun h e => h (hP.inj ok hr hj hr (by omega) (hk.trans (e.trans hq.symm))).2
  refine ⟨fun r j hr1 hj1 => ?_, fun r j hr1 hj1 => ?_, fun k1 hk1 => ?_⟩
  · have hr2 : r < rN R := hr1
    by_cases c : r = r0
    · subst c
      have hj2 : j < z := by
        have : j < nu (rZ R) r (rZ R r - 1) r := hj1
        rw [nu_s] at this
        omega
      have e : rM (rowDel R r k) r j = if rM R r j = k then rM R r (rZ R r - 1) else rM R r j := by
        show nu (rM R) r _ r j = _
        rw [nu_s]
      by_cases d : j = j0
      · have e2 : rM (rowDel R r k) r j = q := by rw [e, if_pos (by rw [d]; exact hk), hz]; exact hq
        have hne : k ≠ q := hkq (by omega)
        have hb := hP.1 r z hr (by omega)
        have hc := hP.1 r j0 hr hj
        rw [hq] at hb
        rw [hk] at hc
        rw [e2, d]
        refine ⟨(lv_a (by omega) (by omega)).trans hb.1, ?_⟩
        exact (upd_n (by omega)).trans (upd_s.trans hc.2)
      · have hnk : rM R r j ≠ k := fun e3 => d (hP.inj ok hr (by omega) hr hj (e3.trans hk.symm)).2
        have e2 : rM (rowDel R r k) r j = rM R r j := by rw [e, if_neg hnk]
        have hnq : rM R r j ≠ q := fun e3 => by
          have := (hP.inj ok hr (by omega) hr (by omega : z < rZ R r) (e3.trans hq.symm)).2
          omega
        rw [e2]
        have hb := hP.1 r j hr (by omega)
        exact ⟨(lv_a (by omega) (by omega)).trans hb.1, (lv_a (by omega) (by omega)).trans hb.2⟩
    · have hj2 : j < rZ R r := by
        have : j < nu (rZ R) r0 (rZ R r0 - 1) r := hj1
        rw [nu_n c] at this
        exact this
      have e : rM (rowDel R r0 k) r j = rM R r j := by
        show nu (rM R) r0 _ r j = _
        rw [nu_n c]
      have hnk : rM R r j ≠ k := fun e3 => c (hP.inj ok hr2 hj2 hr hj (e3.trans hk.symm)).1
      have hnq : rM R r j ≠ q := fun e3 => c (hP.inj ok hr2 hj2 hr (by omega : z < rZ R r0) (e3.trans hq.symm)).1
      rw [e]
      have hb := hP.1 r j hr2 hj2
      exact ⟨(lv_a (by omega) (by omega)).trans hb.1, (lv_a (by omega) (by omega)).trans hb.2⟩
  · have hr2 : r < rN R := hr1
    by_cases c : r = r0
    · subst c
      have hj2 : j < z := by
        have : j < nu (rZ R) r (rZ R r - 1) r := hj1
        rw [nu_s] at this
        omega
      show al (nu (rM R) r _ r j) = true
      rw [nu_s]
      show al (if rM R r j = k then _ else _) = true
      split
      · exact hP.2.1 r _ hr (by omega)
      · exact hP.2.1 r _ hr (by omega)
    · have hj2 : j < rZ R r := by
        have : j < nu (rZ R) r0 (rZ R r0 - 1) r := hj1
        rw [nu_n c] at this
        exact this
      show al (nu (rM R) r0 _ r j) = true
      rw [nu_n c]
      exact hP.2.1 r j hr2 hj2
  · by_cases c : k1 = k
    · right
      rw [c]
      exact upd_s
    · rcases hP.2.2 k1 hk1 with ⟨r, j, hr1, hj1, e⟩ | h
      · left
        by_cases d : r = r0
        · subst d
          by_cases g : j = z
          · subst g
            have hjj : j0 ≠ j := fun e3 => c (by rw [← e, ← hk, e3])
            refine ⟨r, j0, hr1, ?_, ?_⟩
            · show j0 < nu (rZ R) r (rZ R r - 1) r
              rw [nu_s]
              omega
            · show nu (rM R) r _ r j0 = k1
              rw [nu_s]
              show (if rM R r j0 = k then rM R r (rZ R r - 1) else _) = k1
              rw [if_pos hk, hz]
              exact e
          · refine ⟨r, j, hr1, ?_, ?_⟩
            · show j < nu (rZ R) r (rZ R r - 1) r
              rw [nu_s]
              omega
            · show nu (rM R) r _ r j = k1
              rw [nu_s]
              show (if rM R r j = k then rM R r (rZ R r - 1) else rM R r j) = k1
              rw [if_neg (by rw [e]; exact c)]
              exact e
        · refine ⟨r, j, hr1, ?_, ?_⟩
          · show j < nu (rZ R) r0 (rZ R r0 - 1) r
            rw [nu_n d]
            exact hj1
          · show nu (rM R) r0 _ r j = k1
            rw [nu_n d]
            exact e
      · right
        exact (lv_a (by omega) (by omega)).trans h
theorem LPw.ens (hP : LPw F al R) (d : Nat) : LPw F al (rowEns R d) := by
  unfold rowEns
  split
  · exact hP
  · refine ⟨fun r j hr hj => ?_, fun r j hr hj => ?_, fun k hk => (hP.2.2 k hk).imp (fun ⟨r, j, hr, hj, e⟩ => ⟨r, j, Nat.lt_succ_of_lt hr, ?_, e⟩) id⟩
    · have hj1 : j < nu (rZ R) (rN R) 0 r := hj
      by_cases c : r = rN R
      · rw [c, nu_s] at hj1; omega
      · rw [nu_n c] at hj1
        exact hP.1 r j (by have hr : r < rN R + 1 := hr; omega) hj1
    · have hj1 : j < nu (rZ R) (rN R) 0 r := hj
      by_cases c : r = rN R
      · rw [c, nu_s] at hj1; omega
      · rw [nu_n c] at hj1
        exact hP.2.1 r j (by have hr : r < rN R + 1 := hr; omega) hj1
    · show j < nu (rZ R) (rN R) 0 r
      rw [nu_n (by omega)]
      exact hj
/-- one comes to the end of a row -/
theorem LPw.push (hP : LPw F al R) {r k d : Nat} (hr : r < rN R) (hk : F (6 * k + 4) = -1) (ha : al k = true) (h64 : rN R ≤ 64) : LPw (enF F k d r (rZ R r)) al (rowPush R r k) := by
  have hno : ∀ r1 j1, r1 < rN R → j1 < rZ R r1 → rM R r1 j1 ≠ k := fun r1 j1 h1 h2 e => by
    have := (hP.1 r1 j1 h1 h2).1
    rw [e, hk] at this
    exact nI_m1 (by omega) this.symm
  refine ⟨fun r1 j hr1 hj1 => ?_, fun r1 j hr1 hj1 => ?_, fun k1 hk1 => ?_⟩
  · have hr2 : r1 < rN R := hr1
    have hj2 : j < nu (rZ R) r (rZ R r + 1) r1 := hj1
    have e : rM (rowPush R r k) r1 j = nu (rM R) r (nu (rM R r) (rZ R r) k) r1 j := rfl
    by_cases c : r1 = r
    · subst c
      rw [nu_s] at hj2
      rw [nu_s] at e
      by_cases g : j = rZ R r1
      · rw [g, nu_s] at e
        rw [g, e]
        exact ⟨en_4, en_5⟩
      · rw [nu_n g] at e
        rw [e]
        have hn := hno r1 j hr2 (by omega)
        have hb := hP.1 r1 j hr2 (by omega)
        exact ⟨(en_a (by omega) (by omega) (by omega)).trans hb.1, (en_a (by omega) (by omega) (by omega)).trans hb.2⟩
    · rw [nu_n c] at hj2
      rw [nu_n c] at e
      rw [e]
      have hn := hno r1 j hr2 hj2
      have hb := hP.1 r1 j hr2 hj2
      exact ⟨(en_a (by omega) (by omega) (by omega)).trans hb.1, (en_a (by omega) (by omega) (by omega)).trans hb.2⟩
  · have hr2 : r1 < rN R := hr1
    have hj2 : j < nu (rZ R) r (rZ R r + 1) r1 := hj1
    show al (nu (rM R) r (nu (rM R r) (rZ R r) k) r1 j) = true
    by_cases c : r1 = r
    · subst c
      rw [nu_s] at hj2 ⊢
      by_cases g : j = rZ R r1
      · rw [g, nu_s]; exact ha
      · rw [nu_n g]; exact hP.2.1 r1 j hr2 (by omega)
    · rw [nu_n c] at hj2 ⊢
      exact hP.2.1 r1 j hr2 hj2
  · by_cases c : k1 = k
    · left
      refine ⟨r, rZ R r, hr, ?_, ?_⟩
      · show rZ R r < nu (rZ R) r (rZ R r + 1) r
        rw [nu_s]; omega
      · show nu (rM R) r (nu (rM R r) (rZ R r) k) r (rZ R r) = k1
        rw [nu_s, nu_s, c]
    · rcases hP.2.2 k1 hk1 with ⟨r1, j, hr1, hj1, e⟩ | h
      · left
        refine ⟨r1, j, hr1, ?_, ?_⟩
        · show j < nu (rZ R) r (rZ R r + 1) r1
          by_cases g : r1 = r
          · rw [g, nu_s]; rw [g] at hj1; omega
          · rw [nu_n g]; exact hj1
        · show nu (rM R) r (nu (rM R r) (rZ R r) k) r1 j = k1
          by_cases g : r1 = r
          · subst g
            rw [nu_s, nu_n (by omega)]; exact e
          · rw [nu_n g]; exact e
      · right
        exact (en_a (by omega) (by omega) (by omega)).trans h
end LPS
theorem lrw_new {Y Y1 : Nat → Nat → Int32} {R : mR} {d : Nat} (hw : LRw Y R) (hro : row R d = rN R) (e9 : Y1 9 0 = nI (rN R + 1)) (e4 : ∀ x, Y1 4 x = if x = rN R then nI d else Y 4 x) : LRw Y1 (rowEns R d) := by
  have e : rowEns R d = (rN R + 1, nu (rS R) (rN R) d, nu (rZ R) (rN R) 0, rM R) := if_neg (by omega)
  rw [e]
  refine ⟨e9, fun r hr => ?_⟩
  show Y1 4 r = nI (nu (rS R) (rN R) d r)
  rw [e4]
  by_cases c : r = rN R
  · rw [if_pos c, c, nu_s]
  · rw [if_neg c, nu_n c]
    exact hw.2 r (by have hr : r < rN R + 1 := hr; omega)
theorem lrw_old {Y Y1 : Nat → Nat → Int32} {R : mR} {d : Nat} (hw : LRw Y R) (hlt : row R d < rN R) (e9 : Y1 9 0 = nI (rN R)) (e4 : ∀ x, Y1 4 x = if x = row R d then nI d else Y 4 x) : LRw Y1 (rowEns R d) := by
  have e : rowEns R d = R := if_pos hlt
  rw [e]
  refine ⟨e9, fun r hr => ?_⟩
  rw [e4]
  by_cases c : r = row R d
  · rw [if_pos c, c, row_at hlt]
  · rw [if_neg c]
    exact hw.2 r hr
/-- the entity's numbers, where only sets, rows and places change -/
theorem LE.cong {Y Y1 : Nat → Nat → Int32} {E : mE} (h : LE Y E) (e1 : ∀ k, k < 10 → Y1 1 (6 * k) = Y 1 (6 * k) ∧ Y1 1 (6 * k + 1) = Y 1 (6 * k + 1) ∧ Y1 1 (6 * k + 2) = Y 1 (6 * k + 2) ∧ Y1 1 (6 * k + 3) = Y 1 (6 * k + 3)) (e2 : Y1 2 = Y 2) (e3 : Y1 3 = Y 3) : LE Y1 E :=
  ⟨fun k hk => (e1 k hk).1.trans (h.1 k hk), fun k hk => (e1 k hk).2.1.trans (h.2.1 k hk), fun k hk ha => (e1 k hk).2.2.1.trans (h.2.2.1 k hk ha), fun k hk ha => (e1 k hk).2.2.2.trans (h.2.2.2.1 k hk ha), h.2.2.2.2.1, fun k i hk hi => by rw [e2]; exact h.2.2.2.2.2.1 k i hk hi, fun k i hk hi => by rw [e3]; exact h.2.2.2.2.2.2 k i hk hi⟩
theorem LE.becomes {Y Y1 : Nat → Nat → Int32} {E : mE} {k d : Nat} (h : LE Y E) (e1 : ∀ i, i < 10 → Y1 1 (6 * i) = Y 1 (6 * i) ∧ Y1 1 (6 * i + 1) = Y 1 (6 * i + 1) ∧ Y1 1 (6 * i + 2) = (if i = k then nI d else Y 1 (6 * i + 2)) ∧ Y1 1 (6 * i + 3) = Y 1 (6 * i + 3)) (e2 : Y1 2 = Y 2) (e3 : Y1 3 = Y 3) : LE Y1 (becomesE E k d) :=
  ⟨fun k hk => (e1 k hk).1.trans (h.1 k hk), fun k hk => (e1 k hk).2.1.trans (h.2.1 k hk), fun i hi ha => by
    show Y1 1 _ = nI (nu (mKd E) k d i)
    rw [(e1 i hi).2.2.1]
    by_cases c : i = k
    · rw [if_pos c, c, nu_s]
    · rw [if_neg c, nu_n c]; exact h.2.2.1 i hi ha, fun k hk ha => (e1 k hk).2.2.2.trans (h.2.2.2.1 k hk ha), h.2.2.2.2.1, fun k i hk hi => by rw [e2]; exact h.2.2.2.2.2.1 k i hk hi, fun k i hk hi => by rw [e3]; exact h.2.2.2.2.2.2 k i hk hi⟩
theorem LE.makes {Y Y1 : Nat → Nat → Int32} {E : mE} {k : Nat} (h : LE Y E) (hk : k < 10) (e1 : ∀ i, i < 10 → Y1 1 (6 * i) = (if i = k then nI 1 else Y 1 (6 * i)) ∧ Y1 1 (6 * i + 1) = Y 1 (6 * i + 1) ∧ Y1 1 (6 * i + 2) = (if i = k then nI 0 else Y 1 (6 * i + 2)) ∧ Y1 1 (6 * i + 3) = (if i = k then -1 else Y 1 (6 * i + 3))) (e2 : Y1 2 = Y 2) (e3 : Y1 3 = Y 3) : LE Y1 (makesE E k) := by
  refine ⟨fun i hi => ?_, fun i hi => (e1 i hi).2.1.trans (h.2.1 i hi), fun i hi ha => ?_, fun i hi ha => ?_, fun i ha => ?_, fun k i hk hi => by rw [e2]; exact h.2.2.2.2.2.1 k i hk hi, fun k i hk hi => by rw [e3]; exact h.2.2.2.2.2.2 k i hk hi⟩
  · show Y1 1 _ = bI (nu (mAl E) k true i)
    rw [(e1 i hi).1]
    by_cases c : i = k
    · rw [if_pos c, c, nu_s]; rfl
    · rw [if_neg c, nu_n c]; exact h.1 i hi
  · show Y1 1 _ = nI (nu (mKd E) k 0 i)
    rw [(e1 i hi).2.2.1]
    by_cases c : i = k
    · rw [if_pos c, c, nu_s]
    · rw [if_neg c, nu_n c]
      have ha : nu (mAl E) k true i = true := ha
      rw [nu_n c] at ha
      exact h.2.2.1 i hi ha
  · show Y1 1 _ = nO (nu (mPar E) k none i)
    rw [(e1 i hi).2.2.2]
    by_cases c : i = k
    · rw [if_pos c, c, nu_s]; rfl
    · rw [if_neg c, nu_n c]
      have ha : nu (mAl E) k true i = true := ha
      rw [nu_n c] at ha
      exact h.2.2.2.1 i hi ha
  · have ha : nu (mAl E) k true i = true := ha
    by_cases c : i = k
    · omega
    · rw [nu_n c] at ha
      exact h.2.2.2.2.1 i ha
theorem LE.ends {Y Y1 : Nat → Nat → Int32} {E : mE} {k : Nat} (h : LE Y E) (hk : k < 10) (e1 : ∀ i, i < 10 → Y1 1 (6 * i) = (if i = k then nI 0 else Y 1 (6 * i)) ∧ Y1 1 (6 * i + 1) = (if i = k then nI (mHad E k + 1) else Y 1 (6 * i + 1)) ∧ Y1 1 (6 * i + 2) = Y 1 (6 * i + 2) ∧ Y1 1 (6 * i + 3) = Y 1 (6 * i + 3)) (e2 : Y1 2 = Y 2) (e3 : Y1 3 = Y 3) : LE Y1 (endE E k) := by
  refine ⟨fun i hi => ?_, fun i hi => ?_, fun i hi ha => ?_, fun i hi ha => ?_, fun i ha => ?_, fun k i hk hi => by rw [e2]; exact h.2.2.2.2.2.1 k i hk hi, fun k i hk hi => by rw [e3]; exact h.2.2.2.2.2.2 k i hk hi⟩
  · show Y1 1 _ = bI (nu (mAl E) k false i)
    rw [(e1 i hi).1]
    by_cases c : i = k
    · rw [if_pos c, c, nu_s]; rfl
    · rw [if_neg c, nu_n c]; exact h.1 i hi
  · show Y1 1 _ = nI (nu (mHad E) k (mHad E k + 1) i)
    rw [(e1 i hi).2.1]
    by_cases c : i = k
    · rw [if_pos c, c, nu_s]
    · rw [if_neg c, nu_n c]; exact h.2.1 i hi
  all_goals
    have ha : nu (mAl E) k false i = true := ha
    by_cases c : i = k
    · rw [c, nu_s] at ha; cases ha
    · rw [nu_n c] at ha
      first
      | exact h.2.2.2.2.1 i ha
      | (show Y1 1 _ = nI (nu (mKd E) k 0 i); rw [(e1 i hi).2.2.1, nu_n c]; exact h.2.2.1 i hi ha)
      | (show Y1 1 _ = nO (nu (mPar E) k none i); rw [(e1 i hi).2.2.2, nu_n c]; exact h.2.2.2.1 i hi ha)
/-- a component's value and mark -/
theorem LE.put {Y Y1 : Nat → Nat → Int32} {E : mE} {k i : Nat} {v t : Int32} (h : LE Y E) (hk : k < 10) (hi : i < 6) (e1 : Y1 1 = Y 1) (e2 : Y1 2 = upd (Y 2) (6 * k + i) v) (e3 : Y1 3 = upd (Y 3) (6 * k + i) t) : LE Y1 (putE E k i v t) := by
  refine ⟨fun k hk => by rw [e1]; exact h.1 k hk, fun k hk => by rw [e1]; exact h.2.1 k hk, fun k hk ha => by rw [e1]; exact h.2.2.1 k hk ha, fun k hk ha => by rw [e1]; exact h.2.2.2.1 k hk ha, h.2.2.2.2.1, fun k1 i1 hk1 hi1 => ?_, fun k1 i1 hk1 hi1 => ?_⟩
  · show Y1 2 _ = nu (mVal E) k (nu (mVal E k) i v) k1 i1
    rw [e2]
    by_cases c : k1 = k
    · subst c
      rw [nu_s]
      by_cases d : i1 = i
      · rw [d, nu_s]; exact upd_s
      · rw [nu_n d, upd_n (by omega)]; exact h.2.2.2.2.2.1 k1 i1 hk1 hi1
    · rw [nu_n c, upd_n (by omega)]; exact h.2.2.2.2.2.1 k1 i1 hk1 hi1
  · show Y1 3 _ = nu (mMk E) k (nu (mMk E k) i t) k1 i1
    rw [e3]
    by_cases c : k1 = k
    · subst c
      rw [nu_s]
      by_cases d : i1 = i
      · rw [d, nu_s]; exact upd_s
      · rw [nu_n d, upd_n (by omega)]; exact h.2.2.2.2.2.2 k1 i1 hk1 hi1
    · rw [nu_n c, upd_n (by omega)]; exact h.2.2.2.2.2.2 k1 i1 hk1 hi1
theorem and_pos (v : Int32) : ∃ j : Nat, j < 2 ^ 31 ∧ v &&& nI 2147483647 = nI j := by
  have h0 : (v &&& nI 2147483647).toBitVec.toNat = v.toBitVec.toNat % 2 ^ 31 := by
    show (v.toBitVec &&& (nI 2147483647).toBitVec).toNat = _
    rw [BitVec.toNat_and]
    show v.toBitVec.toNat &&& 2147483647 = _
    exact Nat.and_two_pow_sub_one_eq_mod _ 31
  refine ⟨v.toBitVec.toNat % 2 ^ 31, Nat.mod_lt _ (by decide), ?_⟩
  apply Int32.toBitVec_inj.mp
  apply BitVec.eq_of_toNat_eq
  rw [h0]
  exact (pk_tn (Nat.lt_trans (Nat.mod_lt _ (by decide)) (by decide))).symm
theorem bit_nsub : ∀ n, n < 64 → ∀ a, a < 64 → (nI a &&& (nI n ^^^ (-1)) = nI 0 ↔ subB n a = true) := by decide +kernel
theorem bit_le0 : ∀ n, n < 64 → ∀ d, d < 64 → (nI n &&& nI d ≤ 0 ↔ disB n d = true) := by decide +kernel
theorem disB_c (a b : Nat) : disB a b = disB b a := by unfold disB; rw [Nat.and_comm]
theorem cnt_bI (f : Nat → Bool) (i : Nat) : nI (cnt f i) + bI (f i) = nI (cnt f (i + 1)) := by
  cases h : f i with
  | false => rw [cnt_f h]; exact (nI_add _ 0)
  | true => rw [cnt_t h]; exact nI_1 _
/-- questions -/
def LQ (Y : Nat → Nat → Int32) (Q : mQ) : Prop := Y 9 2 = nI Q.1 ∧ ∀ i, i < Q.1 → Y 5 (3 * i) = nI (Q.2.1 i) ∧ Y 5 (3 * i + 1) = nI (Q.2.2.1 i) ∧ Y 5 (3 * i + 2) = nI (Q.2.2.2 i)
