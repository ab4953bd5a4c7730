/-! a member out of its row, a member onto a row, an entity's own fields -/
theorem RepR.del {D : va_G} {T : Nat → ClassId} {dE b r k j0 : Nat} {tg : Nat → Nat} {H H1 : Heap} {R : mR} {y : mLy} (hR : RepR D T dE b tg H R y) (ok : okR R) (hr : r < rN R) (hj0 : j0 < rZ R r) (e0 : rM R r j0 = k)
    (hL1 : AL D T dE H1 (yL y r) (yM y r) (yK y r) (rZ R r - 1) (nu (fun j => ea b (rM R r j)) j0 (ea b (rM R r (rZ R r - 1))))) (hz : H1.size = H.size) (hq : ∀ q : Nat, q ≠ yL y r → q ≠ yM y r → H1[q]? = H[q]?) :
    RepR D T dE b tg H1 (rowDel R r k) y ∧ FR tg (fun t => t = 1100 + 2 * r ∨ t = 1100 + 2 * r + 1) H H1 := by
  obtain ⟨n1, n2, n3⟩ := hR.2 r hr
  have hcap := n3.1.2.1
  obtain ⟨l1, f1⟩ := n3.st hL1 hz hq (by omega)
  refine ⟨⟨hR.1.kept TX.rf f1 (by omega) (by omega) (by omega), fun q hq2 => ?_⟩, f1⟩
  have hq2 : q < rN R := hq2
  show oc D H1 (yW y q) 6 [.int (nI (rS R q)), .ref (yL y q)] ∧ tg (yW y q) = 1002 ∧ LSt D T dE tg (1100 + 2 * q) H1 (yL y q) (yM y q) (yK y q) (nu (rZ R) r (rZ R r - 1) q) (fun j => ea b (nu (rM R) r (fun j => if rM R r j = k then rM R r (rZ R r - 1) else rM R r j) q j))
  by_cases c : q = r
  · subst c
    simp only [nu_s]
    refine ⟨ocF n1 f1 n2 (by omega), n2, l1.cong (fun i hi => ?_)⟩
    by_cases ci : i = j0
    · rw [ci, nu_s, if_pos e0]
    · rw [nu_n ci, if_neg (fun z => ci (ok.2.2.2 q i j0 hr (by omega) hj0 (z.trans e0.symm)))]
  · simp only [nu_n c]
    exact (hR.2 q hq2).kept TX.rf f1 (by omega) (by omega) (by omega) (by omega)
theorem RepR.push {D : va_G} {T : Nat → ClassId} {dE b r k : Nat} {A : Nat → Prop} {tg : Nat → Nat} {H H1 : Heap} {R : mR} {y : mLy} (hT : TG A b H tg) (hR : RepR D T dE b tg H R y) (hr : r < rN R) (hz64 : rZ R r < 64)
    (h1 : AL D T dE H1 (yL y r) (nArr H (yM y r) (yK y r) (rZ R r)) (nCap (yK y r) (rZ R r)) (rZ R r + 1) (nu (fun j => ea b (rM R r j)) (rZ R r) (ea b k))) (hz : H1.size = H.size + dC (yK y r) (rZ R r)) (hq : ∀ q : Nat, q < H.size → q ≠ yL y r → (0 < yK y r → q ≠ yM y r) → H1[q]? = H[q]?) :
    ∃ (tg1 : Nat → Nat) (y1 : mLy), TG A b H1 tg1 ∧ TX tg H tg1 ∧ RepR D T dE b tg1 H1 (rowPush R r k) y1 ∧ FR tg (fun t => t = 1100 + 2 * r ∨ t = 1100 + 2 * r + 1) H H1 := by
  obtain ⟨n1, n2, n3⟩ := hR.2 r hr
  obtain ⟨tg1, arr1, cap1, t1, x1, l1, f1⟩ := n3.ad hT (by omega) hz64 h1 hz hq
  refine ⟨tg1, (yA y, yC y, yW y, yL y, nu (yM y) r arr1, nu (yK y) r cap1), t1, x1, ⟨hR.1.kept x1 f1 (by omega) (by omega) (by omega), fun q hq2 => ?_⟩, f1⟩
  have hq2 : q < rN R := hq2
  show oc D H1 (yW y q) 6 [.int (nI (rS R q)), .ref (yL y q)] ∧ tg1 (yW y q) = 1002 ∧ LSt D T dE tg1 (1100 + 2 * q) H1 (yL y q) (nu (yM y) r arr1 q) (nu (yK y) r cap1 q) (nu (rZ R) r (rZ R r + 1) q) (fun j => ea b (nu (rM R) r (nu (rM R r) (rZ R r) k) q j))
  by_cases c : q = r
  · subst c
    simp only [nu_s]
    refine ⟨ocF n1 f1 n2 (by omega), (x1 _ n1.lt).trans n2, l1.cong (fun i hi => ?_)⟩
    by_cases ci : i = rZ R q
    · rw [ci, nu_s, nu_s]
    · rw [nu_n ci, nu_n ci]
  · simp only [nu_n c]
    exact (hR.2 q hq2).kept x1 f1 (by omega) (by omega) (by omega) (by omega)
theorem PE.st {D : va_G} {T : Nat → ClassId} {b sl : Nat} {H H1 : Heap} {E E1 : mE} (h : PE D T b H E) (hs32 : sl < 32) (ho : oc D H1 (ea b sl) 4 [.ref (ea b sl + 1), .ref (ea b sl + 2), .int (handle E1 sl), .int (bI (mAl E1 sl)), va_rf ((mPar E1 sl).map (ea b)), .int (nI (mKd E1 sl))])
    (hv : mVal E1 = mVal E) (hm : mMk E1 = mMk E) (hk : ∀ k, k ≠ sl → mAl E1 k = mAl E k ∧ mHad E1 k = mHad E k ∧ mPar E1 k = mPar E k ∧ mKd E1 k = mKd E k) (e : ∀ q : Nat, q ≠ ea b sl → H1[q]? = H[q]?) : PE D T b H1 E1 := by
  intro k hk32
  obtain ⟨h1, gv, gm, h2, h3, h4⟩ := h k hk32
  have hne : ∀ x : Nat, x < 3 → k ≠ sl → ea b k + x ≠ ea b sl := fun x hx3 hkn => by unfold ea; omega
  have hn1 : ea b k + 1 ≠ ea b sl := by unfold ea; omega
  have hn2 : ea b k + 2 ≠ ea b sl := by unfold ea; omega
  refine ⟨?_, gv, gm, h2.kept (e _ hn1), h3.kept (e _ hn2), fun j hj => by rw [hv, hm]; exact h4 j hj⟩
  by_cases c : k = sl
  · subst c; exact ho
  · obtain ⟨a1, a2, a3, a4⟩ := hk k c
    have hh : handle E1 k = handle E k := by unfold handle; rw [a2]
    rw [a1, a3, a4, hh]; exact h1.kept (e _ (hne 0 (by decide) c))
theorem FR.ent {tg : Nat → Nat} {A : Nat → Prop} {b sl : Nat} {H H1 : Heap} (hT : TG A b H tg) (hs32 : sl < 32) (hz : H1.size = H.size) (e : ∀ q : Nat, q ≠ ea b sl → H1[q]? = H[q]?) : FR tg (fun t => t = 5) H H1 := ⟨by omega, fun q _ h2 => e q (fun z => h2 (by rw [z]; exact hT.2.2.2.2 _ (by unfold ea; omega) (by unfold ea; omega)))⟩
theorem ea_A {A : Nat → Prop} {tg : Nat → Nat} {b sl i : Nat} {H : Heap} (hT : TG A b H tg) (hs32 : sl < 32) (hi : i < 3) : A (ea b sl + i) := hT.a (hT.2.2.2.2 _ (by unfold ea; omega) (by unfold ea; omega)) (by decide)
theorem ea_tg {A : Nat → Prop} {tg : Nat → Nat} {b sl : Nat} {H : Heap} (hT : TG A b H tg) (hs32 : sl < 32) : tg (ea b sl) = 5 := hT.2.2.2.2 _ (by unfold ea; omega) (by unfold ea; omega)
