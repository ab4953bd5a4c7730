/-! rows, questions, systems, the walk: what lies where. y tells the rows: array and its size of their list, the rows' objects, their lists, arrays and sizes -/
abbrev mLy : Type := Nat × Nat × (Nat → Nat) × (Nat → Nat) × (Nat → Nat) × (Nat → Nat)
abbrev yA (y : mLy) : Nat := y.1
abbrev yC (y : mLy) : Nat := y.2.1
abbrev yW (y : mLy) : Nat → Nat := y.2.2.1
abbrev yL (y : mLy) : Nat → Nat := y.2.2.2.1
abbrev yM (y : mLy) : Nat → Nat := y.2.2.2.2.1
abbrev yK (y : mLy) : Nat → Nat := y.2.2.2.2.2
abbrev mLz : Type := Nat × Nat × (Nat → Nat)
section REP
variable (D : va_G) (T : Nat → ClassId) (dE b : Nat) (tg : Nat → Nat) (H : Heap)
def RepN (R : mR) (y : mLy) (r : Nat) : Prop := oc D H (yW y r) 6 [.int (nI (rS R r)), .ref (yL y r)] ∧ tg (yW y r) = 1002 ∧ LSt D T dE tg (1100 + 2 * r) H (yL y r) (yM y r) (yK y r) (rZ R r) (fun j => ea b (rM R r j))
def RepR (R : mR) (y : mLy) : Prop := LSt D T dE tg 1000 H (b + 2) (yA y) (yC y) (rN R) (yW y) ∧ ∀ r, r < rN R → RepN D T dE b tg H R y r
def RepQ (Q : mQ) (z : mLz) : Prop := LSt D T dE tg 100 H (b + 3) z.1 z.2.1 Q.1 z.2.2 ∧ ∀ i, i < Q.1 → oc D H (z.2.2 i) 5 [.int (nI (Q.2.1 i)), .int (nI (Q.2.2.1 i)), .int (nI (Q.2.2.2 i))] ∧ tg (z.2.2 i) = 102
def RepY (Q : mQ) (z : mLz) : Prop := LSt D T dE tg 200 H (b + 4) z.1 z.2.1 Q.1 z.2.2 ∧ ∀ i, i < Q.1 → oc D H (z.2.2 i) 7 [.int (nI (Q.2.1 i)), .int (nI (Q.2.2.1 i)), .int (nI (Q.2.2.2 i))] ∧ tg (z.2.2 i) = 202
/-- the waiting commands -/
def RepC (C : mC) (cl : Nat) (z : mLz) : Prop := LSt D T dE tg 304 H cl z.1 z.2.1 C.1 z.2.2 ∧ ∀ i, i < C.1 → oc D H (z.2.2 i) 3 [.int (C.2.1 i), .int (C.2.2.1 i), .int (C.2.2.2.1 i), .int (C.2.2.2.2 i)] ∧ tg (z.2.2 i) = 306
def RepK (W : mW) (wk : Nat) (al aarr acap cl : Nat) (z : mLz) : Prop := oc D H wk 8 [.ref al, .ref cl, .int (nI (wTold W))] ∧ tg wk = 300 ∧ LSt D T dE tg 302 H al aarr acap (wN W) (fun j => ea b (wA W j)) ∧ RepC D T dE tg H (wC W) cl z
def RepW (W : mW) (wo : Option Nat) : Prop := (wOn W = false ∧ wo = none) ∨ (wOn W = true ∧ ∃ (wk al aarr acap cl : Nat) (z : mLz), wo = some wk ∧ RepK D T dE b tg H W wk al aarr acap cl z)
def Core (A : Nat → Prop) (E : mE) (R : mR) (y : mLy) (wo : Option Nat) (tk : Int32) : Prop := TG A b H tg ∧ PX D T b H wo tk ∧ PE D T b H E ∧ RepR D T dE b tg H R y
end REP
/-- the cells that entities and rows lie in -/
def CS : Nat → Prop := fun t => t = 5 ∨ 1000 ≤ t
def Nxt (D : va_G) (T : Nat → ClassId) (dE b : Nat) (A : Nat → Prop) (tg : Nat → Nat) (H H1 : Heap) (E : mE) (R : mR) (wo : Option Nat) (tk : Int32) : Prop := ∃ (tg1 : Nat → Nat) (y1 : mLy), Core D T dE b tg1 H1 A E R y1 wo tk ∧ TX tg H tg1 ∧ FR tg CS H H1
section REPK
variable {D : va_G} {T : Nat → ClassId} {dE b : Nat} {tg tg1 : Nat → Nat} {H H1 : Heap} {A : Nat → Prop} {S : Nat → Prop} {E : mE} {R : mR} {y : mLy} {wo : Option Nat} {tk : Int32}
theorem ocF {q ci t : Nat} {fs : List Value} (h : oc D H q ci fs) (hF : FR tg S H H1) (ht : tg q = t) (hs : ¬ S t) : oc D H1 q ci fs := h.kept (hF.2 q h.lt (by rw [ht]; exact hs))
theorem PX.keptF (h : PX D T b H wo tk) (hT : TG A b H tg) (hF : FR tg S H H1) (h1 : ¬ S 1) (h2 : ¬ S 2) : PX D T b H1 wo tk := ⟨ocF h.1 hF hT.2.2.1 h1, h.2.kept (hF.2 _ (hT.lt hT.2.2.2.1 (by decide)) (by rw [hT.2.2.2.1]; exact h2))⟩
theorem PE.keptF (h : PE D T b H E) (hT : TG A b H tg) (hF : FR tg S H H1) (h5 : ¬ S 5) : PE D T b H1 E := h.kept (fun q a1 a2 => hF.2 q (hT.lt (hT.2.2.2.2 q a1 a2) (by decide)) (by rw [hT.2.2.2.2 q a1 a2]; exact h5))
theorem RepN.kept {r : Nat} (h : RepN D T dE b tg H R y r) (ht : TX tg H tg1) (hF : FR tg S H H1) (h0 : ¬ S 0) (h1 : ¬ S 1002) (h2 : ¬ S (1100 + 2 * r)) (h3 : ¬ S (1100 + 2 * r + 1)) : RepN D T dE b tg1 H1 R y r := ⟨ocF h.1 hF h.2.1 h1, (ht _ h.1.lt).trans h.2.1, h.2.2.kept ht hF h0 h2 h3⟩
theorem RepR.kept (h : RepR D T dE b tg H R y) (ht : TX tg H tg1) (hF : FR tg S H H1) (hs : ∀ t, S t → 0 < t ∧ t < 1000) : RepR D T dE b tg1 H1 R y := by
  have n0 : ¬ S 0 := fun z => by have := hs _ z; omega
  have nb : ∀ t, 1000 ≤ t → ¬ S t := fun t a z => by have := hs _ z; omega
  exact ⟨h.1.kept ht hF n0 (nb _ (by omega)) (nb _ (by omega)), fun r hr => (h.2 r hr).kept ht hF n0 (nb _ (by omega)) (nb _ (by omega)) (nb _ (by omega))⟩
theorem RepQ.kept {Q : mQ} {z : mLz} (h : RepQ D T dE b tg H Q z) (ht : TX tg H tg1) (hF : FR tg S H H1) (h0 : ¬ S 0) (h1 : ¬ S 100) (h2 : ¬ S 101) (h3 : ¬ S 102) : RepQ D T dE b tg1 H1 Q z := ⟨h.1.kept ht hF h0 h1 h2, fun i hi => ⟨ocF (h.2 i hi).1 hF (h.2 i hi).2 h3, (ht _ (h.2 i hi).1.lt).trans (h.2 i hi).2⟩⟩
theorem RepY.kept {Q : mQ} {z : mLz} (h : RepY D T dE b tg H Q z) (ht : TX tg H tg1) (hF : FR tg S H H1) (h0 : ¬ S 0) (h1 : ¬ S 200) (h2 : ¬ S 201) (h3 : ¬ S 202) : RepY D T dE b tg1 H1 Q z := ⟨h.1.kept ht hF h0 h1 h2, fun i hi => ⟨ocF (h.2 i hi).1 hF (h.2 i hi).2 h3, (ht _ (h.2 i hi).1.lt).trans (h.2 i hi).2⟩⟩
theorem RepC.kept {C : mC} {cl : Nat} {z : mLz} (h : RepC D T dE tg H C cl z) (ht : TX tg H tg1) (hF : FR tg S H H1) (h0 : ¬ S 0) (h1 : ¬ S 304) (h2 : ¬ S 305) (h3 : ¬ S 306) : RepC D T dE tg1 H1 C cl z := ⟨h.1.kept ht hF h0 h1 h2, fun i hi => ⟨ocF (h.2 i hi).1 hF (h.2 i hi).2 h3, (ht _ (h.2 i hi).1.lt).trans (h.2 i hi).2⟩⟩
theorem RepW.kept {W : mW} (h : RepW D T dE b tg H W wo) (ht : TX tg H tg1) (hF : FR tg S H H1) (h0 : ¬ S 0) (hs : ∀ t, S t → t < 300 ∨ 400 ≤ t) : RepW D T dE b tg1 H1 W wo := by
  have nb : ∀ t, 300 ≤ t → t < 400 → ¬ S t := fun t a1 a2 z => by have := hs _ z; omega
  rcases h with h | ⟨h1, wk, al, aarr, acap, cl, z, h2, h3, h4, h5, h6⟩
  · exact Or.inl h
  · exact Or.inr ⟨h1, wk, al, aarr, acap, cl, z, h2, ocF h3 hF h4 (nb _ (by omega) (by omega)), (ht _ h3.lt).trans h4, h5.kept ht hF h0 (nb _ (by omega) (by omega)) (nb _ (by omega) (by omega)), h6.kept ht hF h0 (nb _ (by omega) (by omega)) (nb _ (by omega) (by omega)) (nb _ (by omega) (by omega))⟩
theorem Core.kp (h : Core D T dE b tg H A E R y wo tk) (hk : KP H H1) : Core D T dE b tg H1 A E R y wo tk := ⟨h.1.kept hk.1, h.2.1.keptF h.1 (FR.kp (S := fun _ => False) hk) id id, h.2.2.1.keptF h.1 (FR.kp (S := fun _ => False) hk) id, h.2.2.2.kept TX.rf (FR.kp (S := fun _ => False) hk) (fun _ z => z.elim)⟩
theorem Core.nx (h : Core D T dE b tg H A E R y wo tk) : Nxt D T dE b A tg H H E R wo tk := ⟨tg, y, h, TX.rf, FR.rf⟩
theorem Nxt.tr {E1 : mE} {R1 : mR} {H2 : Heap} {tg2 : Nat → Nat} (h1 : TX tg H tg2) (h2 : FR tg CS H H1) (h : Nxt D T dE b A tg2 H1 H2 E1 R1 wo tk) : Nxt D T dE b A tg H H2 E1 R1 wo tk := by
  obtain ⟨tg3, y3, a, a2, a3⟩ := h
  exact ⟨tg3, y3, a, h1.tr a2 h2.1, h2.tr h1 a3⟩
theorem RepR.mem {r : Nat} (h : RepR D T dE b tg H R y) (hr : r < rN R) : RepN D T dE b tg H R y r := h.2 r hr
end REPK
theorem TG.nw2 {A : Nat → Prop} {b c a : Nat} {H H1 : Heap} {tg : Nat → Nat} (h : TG A b H tg) (hA : A a) (h0 : tg a = 0) (ha1 : a < H1.size) (hz : H.size ≤ H1.size) : TG A b H1 (nu tg a c) := by
  have e : ∀ q, q ≠ a → nu tg a c q = tg q := fun q hq => nu_n hq
  have ne : ∀ q t, tg q = t → t ≠ 0 → q ≠ a := fun q t h1 h2 z => h2 (by rw [← h1, z]; exact h0)
  refine ⟨fun q hq => ?_, fun q hq => h.2.1 q (by omega), ?_, ?_, fun q h1 h2 => ?_⟩
  · by_cases c1 : q = a
    · subst c1; exact ⟨hA, ha1⟩
    · rw [e q c1] at hq; exact ⟨(h.1 q hq).1, by have := (h.1 q hq).2; omega⟩
  · rw [e b (ne _ _ h.2.2.1 (by decide))]; exact h.2.2.1
  · rw [e (b + 1) (ne _ _ h.2.2.2.1 (by decide))]; exact h.2.2.2.1
  · rw [e q (ne _ _ (h.2.2.2.2 q h1 h2) (by decide))]; exact h.2.2.2.2 q h1 h2
theorem PX.kp {D : va_G} {T : Nat → ClassId} {b : Nat} {H H1 : Heap} {wo : Option Nat} {tk : Int32} (h : PX D T b H wo tk) (hk : KP H H1) : PX D T b H1 wo tk := ⟨h.1.kept (hk.2 _ h.1.lt), h.2.kept (hk.2 _ h.2.lt)⟩
theorem RepR.kp {D : va_G} {T : Nat → ClassId} {dE b : Nat} {tg : Nat → Nat} {H H1 : Heap} {R : mR} {y : mLy} (h : RepR D T dE b tg H R y) (hk : KP H H1) : RepR D T dE b tg H1 R y := h.kept TX.rf (FR.kp (S := fun _ => False) hk) (fun _ z => z.elim)
/-- a new row, at the end of the list of rows -/
theorem RepR.nw {D : va_G} {T : Nat → ClassId} {dE b d : Nat} {A : Nat → Prop} {tg : Nat → Nat} {H H1 H2 : Heap} {R : mR} {y : mLy} (hT : TG A b H tg) (hR : RepR D T dE b tg H R y) (hn : rN R < 64) (hde : tg dE = 0) (hdl : dE < H.size)
    (ho : oc D H1 H.size 6 [.int (nI d), .ref (H.size + 1)]) (hl : ∀ f, AL D T dE H1 (H.size + 1) dE 0 0 f) (hz : H1.size = H.size + 2) (hk : ∀ q : Nat, q < H.size → H1[q]? = H[q]?)
    (h1 : AL D T dE H2 (b + 2) (nArr H1 (yA y) (yC y) (rN R)) (nCap (yC y) (rN R)) (rN R + 1) (nu (yW y) (rN R) H.size)) (hz2 : H2.size = H1.size + dC (yC y) (rN R)) (hq : ∀ q : Nat, q < H1.size → q ≠ b + 2 → (0 < yC y → q ≠ yA y) → H2[q]? = H1[q]?) (hd : row R d = rN R) :
    ∃ (tg1 : Nat → Nat) (y1 : mLy), TG A b H2 tg1 ∧ TX tg H tg1 ∧ RepR D T dE b tg1 H2 (rowEns R d) y1 ∧ yW y1 (rN R) = H.size ∧ FR tg (fun t => t = 1000 ∨ t = 1001) H H2 := by
  obtain ⟨t1, x1⟩ := hT.nw (c := 1002) (H1 := H1) (Nat.le_refl H.size) (by omega)
  have t2 := t1.nw2 (c := 1100 + 2 * rN R) (a := H.size + 1) (H1 := H1) (hT.2.1 _ (by omega)) (by rw [nu_n (by omega)]; exact hT.fr (by omega)) (by omega) (Nat.le_refl _)
  have x2 : TX tg H (nu (nu tg H.size 1002) (H.size + 1) (1100 + 2 * rN R)) := fun q hq => by rw [nu_n (by omega), nu_n (by omega)]
  have hR1 := hR.kept x2 (FR.kp (S := fun _ => False) ⟨by omega, hk⟩) (fun _ z => z.elim)
  obtain ⟨tg3, arr1, cap1, t3, x3, l3, f3⟩ := hR1.1.ad t2 (by decide) hn h1 hz2 hq
  have e1 : rowEns R d = (rN R + 1, nu (rS R) (rN R) d, nu (rZ R) (rN R) 0, rM R) := if_neg (by omega)
  have w1 : nu (nu tg H.size 1002) (H.size + 1) (1100 + 2 * rN R) H.size = 1002 := by rw [nu_n (by omega), nu_s]
  have w2 : nu (nu tg H.size 1002) (H.size + 1) (1100 + 2 * rN R) (H.size + 1) = 1100 + 2 * rN R := nu_s
  have w3 : nu (nu tg H.size 1002) (H.size + 1) (1100 + 2 * rN R) dE = 0 := by rw [nu_n (by omega), nu_n (by omega)]; exact hde
  refine ⟨tg3, (arr1, cap1, nu (yW y) (rN R) H.size, nu (yL y) (rN R) (H.size + 1), nu (yM y) (rN R) dE, nu (yK y) (rN R) 0), t3, x2.tr x3 (by omega), ?_, nu_s, by have := f3.1; omega, fun q q1 q2 => (f3.2 q (by omega) (by rw [x2 q q1]; exact q2)).trans (hk q q1)⟩
  rw [e1]
  refine ⟨l3, fun r hr => ?_⟩
  have hr : r < rN R + 1 := hr
  show oc D H2 (nu (yW y) (rN R) H.size r) 6 [.int (nI (nu (rS R) (rN R) d r)), .ref (nu (yL y) (rN R) (H.size + 1) r)] ∧ tg3 (nu (yW y) (rN R) H.size r) = 1002 ∧ LSt D T dE tg3 (1100 + 2 * r) H2 (nu (yL y) (rN R) (H.size + 1) r) (nu (yM y) (rN R) dE r) (nu (yK y) (rN R) 0 r) (nu (rZ R) (rN R) 0 r) (fun j => ea b (rM R r j))
  by_cases c : r = rN R
  · subst c
    simp only [nu_s]
    refine ⟨ocF ho f3 w1 (by omega), (x3 _ (by omega)).trans w1, (hl _).kept (f3.2 _ (by omega) (by rw [w2]; omega)) (f3.2 _ (by omega) (by rw [w3]; omega)), Or.inl rfl, (x3 _ (by omega)).trans w2, ?_⟩
    rw [if_pos rfl]; exact (x3 _ (by omega)).trans w3
  · simp only [nu_n c]
    exact (hR1.2 r (by omega)).kept x3 f3 (by omega) (by omega) (by omega) (by omega)
