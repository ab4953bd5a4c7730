/-! the store as numbers: entities, rows, questions, walk, systems, tick -/
abbrev mE : Type := (Nat → Bool) × (Nat → Nat) × (Nat → Nat) × (Nat → Option Nat) × (Nat → Nat → Int32) × (Nat → Nat → Int32)
abbrev mR : Type := Nat × (Nat → Nat) × (Nat → Nat) × (Nat → Nat → Nat)
abbrev mQ : Type := Nat × (Nat → Nat) × (Nat → Nat) × (Nat → Nat)
abbrev mC : Type := Nat × (Nat → Int32) × (Nat → Int32) × (Nat → Int32) × (Nat → Int32)
abbrev mW : Type := Bool × (Nat × (Nat → Nat) × Nat) × mC
abbrev mSt : Type := mE × mR × mQ × mW × mQ × Int32
abbrev mAl (E : mE) : Nat → Bool := E.1
abbrev mHad (E : mE) : Nat → Nat := E.2.1
abbrev mKd (E : mE) : Nat → Nat := E.2.2.1
abbrev mPar (E : mE) : Nat → Option Nat := E.2.2.2.1
abbrev mVal (E : mE) : Nat → Nat → Int32 := E.2.2.2.2.1
abbrev mMk (E : mE) : Nat → Nat → Int32 := E.2.2.2.2.2
abbrev rN (R : mR) : Nat := R.1
abbrev rS (R : mR) : Nat → Nat := R.2.1
abbrev rZ (R : mR) : Nat → Nat := R.2.2.1
abbrev rM (R : mR) : Nat → Nat → Nat := R.2.2.2
abbrev sE (M : mSt) : mE := M.1
abbrev sR (M : mSt) : mR := M.2.1
abbrev sQ (M : mSt) : mQ := M.2.2.1
abbrev sW (M : mSt) : mW := M.2.2.2.1
abbrev sY (M : mSt) : mQ := M.2.2.2.2.1
abbrev sT (M : mSt) : Int32 := M.2.2.2.2.2
abbrev wOn (W : mW) : Bool := W.1
abbrev wN (W : mW) : Nat := W.2.1.1
abbrev wA (W : mW) : Nat → Nat := W.2.1.2.1
abbrev wTold (W : mW) : Nat := W.2.1.2.2
abbrev wC (W : mW) : mC := W.2.2
def nu {α : Type} (f : Nat → α) (k : Nat) (v : α) : Nat → α := fun j => if j = k then v else f j
theorem nu_s {α : Type} {f : Nat → α} {k : Nat} {v : α} : nu f k v k = v := if_pos rfl
theorem nu_n {α : Type} {f : Nat → α} {k j : Nat} {v : α} (h : j ≠ k) : nu f k v j = f j := if_neg h
def nO (r : Option Nat) : Int32 := match r with
  | none => -1
  | some k => nI k
theorem nO_neg {r : Option Nat} (h : ∀ k, r = some k → k < 2 ^ 31) : nO r = -1 ↔ r = none := by
  cases r with
  | none => exact ⟨fun _ => rfl, fun _ => rfl⟩
  | some k =>
    refine ⟨fun e => ?_, fun e => by cases e⟩
    have h1 := nI_pos (h k rfl)
    have e1 : nI k = -1 := e
    rw [e1] at h1
    exact absurd (by decide) h1
theorem nO_inj {a b : Option Nat} (ha : ∀ k, a = some k → k < 2 ^ 31) (hb : ∀ k, b = some k → k < 2 ^ 31) : nO a = nO b ↔ a = b := by
  refine ⟨fun e => ?_, fun e => by rw [e]⟩
  cases a with
  | none =>
    have := (nO_neg hb).mp e.symm
    rw [this]
  | some k =>
    cases b with
    | none => exact (nO_neg ha).mp e
    | some j => exact congrArg some ((nI_eq (ha k rfl) (hb j rfl)).mp e)
/-! bits of a set of kinds: numbers below 64 -/
def bitS (n k : Nat) : Bool := n.testBit k
def setB (n k : Nat) : Nat := n ||| 2 ^ k
def clrB (n k : Nat) : Nat := n &&& (63 - 2 ^ k)
def subB (n d : Nat) : Bool := n &&& d == d
def disB (n d : Nat) : Bool := n &&& d == 0
/-- an entity of set n answers the question of the sets a, o, y -/
def ansB (a o y n : Nat) : Bool := subB n a && disB n o && (y == 0 || !(disB n y))
def handle (E : mE) (k : Nat) : Int32 := nI (k + 32 * mHad E k)
def look (E : mE) (h : Int32) : Option Nat := if mAl E (h.toBitVec.toNat % 32) = true ∧ handle E (h.toBitVec.toNat % 32) = h then some (h.toBitVec.toNat % 32) else none
/-- the first free slot, 32 if none is -/
def freeTo (E : mE) : Nat → Nat
  | 0 => 32
  | n + 1 => if mAl E (31 - n) = false then 31 - n else freeTo E n
def free (E : mE) : Nat := freeTo E 32
/-- the row of a set; its number is rN if there is none -/
def rowTo (R : mR) (d : Nat) : Nat → Nat
  | 0 => rN R
  | n + 1 => if rS R (rN R - (n + 1)) = d then rN R - (n + 1) else rowTo R d n
def row (R : mR) (d : Nat) : Nat := rowTo R d (rN R)
def rowEns (R : mR) (d : Nat) : mR := if row R d < rN R then R else (rN R + 1, nu (rS R) (rN R) d, nu (rZ R) (rN R) 0, rM R)
def rowPush (R : mR) (r k : Nat) : mR := (rN R, rS R, nu (rZ R) r (rZ R r + 1), nu (rM R) r (nu (rM R r) (rZ R r) k))
def rowAdd (R : mR) (d k : Nat) : mR := rowPush (rowEns R d) (row R d) k
def rowDel (R : mR) (r k : Nat) : mR := (rN R, rS R, nu (rZ R) r (rZ R r - 1), nu (rM R) r (fun j => if rM R r j = k then rM R r (rZ R r - 1) else rM R r j))
def becomesE (E : mE) (k d : Nat) : mE := (mAl E, mHad E, nu (mKd E) k d, mPar E, mVal E, mMk E)
def becomesR (E : mE) (R : mR) (k d : Nat) : mR := rowAdd (rowDel R (row R (mKd E k)) k) d k
/-- what holds of every store -/
def InvE (E : mE) : Prop := (∀ k, mKd E k < 64) ∧ (∀ k, mAl E k = true → k < 32) ∧ (∀ k, mAl E k = false → mKd E k = 0 ∧ mPar E k = none) ∧ (∀ k j, mPar E k = some j → mAl E j = true) ∧ ∃ dp : Nat → Nat, ∀ k j, mPar E k = some j → dp j < dp k
def InvR (E : mE) (R : mR) : Prop := (∀ r, r < rN R → rS R r < 64) ∧ (∀ r q, r < rN R → q < rN R → rS R r = rS R q → r = q) ∧ (∀ r j, r < rN R → j < rZ R r → mAl E (rM R r j) = true ∧ mKd E (rM R r j) = rS R r) ∧ (∀ r i j, r < rN R → i < rZ R r → j < rZ R r → rM R r i = rM R r j → i = j) ∧ (∀ k, mAl E k = true → ∃ r j, r < rN R ∧ j < rZ R r ∧ rM R r j = k) ∧ rN R ≤ 64 ∧ ∀ r, r < rN R → rZ R r ≤ 32
def InvQ (Q : mQ) : Prop := Q.1 ≤ 8 ∧ ∀ i, i < Q.1 → Q.2.1 i < 64 ∧ Q.2.2.1 i < 64 ∧ Q.2.2.2 i < 64
def InvW (E : mE) (W : mW) : Prop := wOn W = true → wN W ≤ 32 ∧ wTold W ≤ wN W ∧ (wC W).1 ≤ 20 ∧ (∀ i, i < wN W → wA W i < 32) ∧ ∀ i, i < (wC W).1 → ∃ w : Nat, w < 4 ∧ (wC W).2.1 i = nI w
def InvY (Y : mQ) : Prop := Y.1 ≤ 8 ∧ ∀ i, i < Y.1 → Y.2.1 i < 64 ∧ Y.2.2.1 i < 64 ∧ Y.2.2.2 i ≤ i
def Inv (b : Nat) (M : mSt) : Prop := InvE (sE M) ∧ InvR (sE M) (sR M) ∧ InvQ (sQ M) ∧ InvW (sE M) (sW M) ∧ InvY (sY M) ∧ b ≤ 900000 ∧ ∀ k, mHad (sE M) k ≤ b
/-- the reference's numbers and arrays tell the store -/
def RelE (Y : Nat → Nat → Int32) (E : mE) : Prop := (∀ k, k < 32 → Y 1 k = bI (mAl E k)) ∧ (∀ k, k < 32 → Y 2 k = nI (mHad E k)) ∧ (∀ k, k < 32 → mAl E k = true → Y 3 k = nI (mKd E k)) ∧ (∀ k, k < 32 → mAl E k = true → Y 4 k = nO (mPar E k)) ∧ (∀ k i, k < 32 → i < 6 → Y 5 (6 * k + i) = mVal E k i) ∧ ∀ k i, k < 32 → i < 6 → Y 6 (6 * k + i) = mMk E k i
def RelR (S : Nat → Int32) (Y : Nat → Nat → Int32) (R : mR) : Prop := S 12 = nI (rN R) ∧ (∀ d, d < 64 → Y 7 d = if row R d < rN R then nI (row R d) else -1) ∧ (∀ r, r < rN R → Y 8 r = nI (rS R r)) ∧ (∀ r, r < 64 → Y 9 r = if r < rN R then nI (rZ R r) else 0) ∧ ∀ r j, r < rN R → j < rZ R r → Y 10 (32 * r + j) = nI (rM R r j)
def RelQ (S : Nat → Int32) (Y : Nat → Nat → Int32) (Q : mQ) : Prop := S 16 = nI Q.1 ∧ ∀ i, i < Q.1 → Y 11 i = nI (Q.2.1 i) ∧ Y 12 i = nI (Q.2.2.1 i) ∧ Y 13 i = nI (Q.2.2.2 i)
def RelW (S : Nat → Int32) (Y : Nat → Nat → Int32) (E : mE) (W : mW) : Prop := S 17 = bI (wOn W) ∧ (wOn W = true → S 19 = nI (wN W) ∧ S 20 = nI (wTold W) ∧ S 25 = nI (wC W).1 ∧ (∀ i, i < wN W → Y 14 i = handle E (wA W i)) ∧ ∀ i, i < (wC W).1 → Y 15 i = (wC W).2.1 i ∧ Y 16 i = (wC W).2.2.1 i ∧ Y 17 i = (wC W).2.2.2.1 i ∧ Y 18 i = (wC W).2.2.2.2 i)
def RelY (S : Nat → Int32) (Y : Nat → Nat → Int32) (Z : mQ) : Prop := S 29 = nI Z.1 ∧ ∀ i, i < Z.1 → Y 19 i = nI (Z.2.1 i) ∧ Y 20 i = nI (Z.2.2.1 i) ∧ Y 21 i = nI (Z.2.2.2 i)
def Rel (S : Nat → Int32) (Y : Nat → Nat → Int32) (M : mSt) : Prop := S 1 = sT M ∧ RelE Y (sE M) ∧ RelR S Y (sR M) ∧ RelQ S Y (sQ M) ∧ RelW S Y (sE M) (sW M) ∧ RelY S Y (sY M)
theorem Rel.s0 {S : Nat → Int32} {Y : Nat → Nat → Int32} {M : mSt} {v : Int32} (h : Rel S Y M) : Rel (upd S 0 v) Y M := h
theorem Rel.s0' {S : Nat → Int32} {Y : Nat → Nat → Int32} {M : mSt} {f : Nat → Int32} (h : Rel S Y M) : Rel S (up2 Y 22 f) M := h
abbrev mO : Type := Nat × Int32 × mSt
/-- what a call of the reference leaves: o is its code, its answer where the code is 0, the store then -/
def PM (D : va_G) (T : Nat → ClassId) (g : Nat) (o : mO) (r : Int32) (H : Heap) : Prop := ∃ S Y, RM D T g S Y H ∧ Rel S Y o.2.2 ∧ S 0 = nI o.1 ∧ (o.1 = 0 → r = o.2.1)
/-! facts of small sets, by trying all -/
theorem bit_has : ∀ n, n < 64 → ∀ k, k < 6 → ((nI n >>> (nI k &&& 31)) &&& nI 1 = nI 1 ↔ bitS n k = true) := by decide +kernel
theorem bit_has2 : ∀ n, n < 64 → ∀ k, k < 6 → (nI n &&& (nI 1 <<< (nI k &&& 31)) = nI 0 ↔ bitS n k = false) := by decide +kernel
theorem bit_set : ∀ n, n < 64 → ∀ k, k < 6 → nI n ||| (nI 1 <<< (nI k &&& 31)) = nI (setB n k) ∧ setB n k < 64 := by decide +kernel
theorem bit_clr : ∀ n, n < 64 → ∀ k, k < 6 → nI n &&& ((nI 1 <<< (nI k &&& 31)) ^^^ (-1)) = nI (clrB n k) ∧ clrB n k < 64 := by decide +kernel
theorem bit_sub : ∀ n, n < 64 → ∀ d, d < 64 → (nI n &&& nI d = nI d ↔ subB n d = true) := by decide +kernel
theorem bit_dis : ∀ n, n < 64 → ∀ d, d < 64 → (nI n &&& nI d = nI 0 ↔ disB n d = true) := by decide +kernel
theorem bit_or : ∀ n, n < 64 → ∀ d, d < 64 → nI n ||| nI d = nI (n ||| d) ∧ n ||| d < 64 := by decide +kernel
