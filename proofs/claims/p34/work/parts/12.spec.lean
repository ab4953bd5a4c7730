/-! what each call answers and leaves, as numbers -/
def oErr (M : mSt) (c : Nat) : mO := (c, 0, M)
def oRet (M : mSt) (v : Int32) : mO := (0, v, M)
def ix (x : Int32) : Nat := x.toBitVec.toNat
theorem ix_nI {k : Nat} (h : k < 2 ^ 31) : ix (nI k) = k := pk_tn (by omega)
def wE (M : mSt) (E : mE) : mSt := (E, M.2)
def wR (M : mSt) (R : mR) : mSt := (sE M, R, sQ M, sW M, sY M, sT M)
def wER (M : mSt) (E : mE) (R : mR) : mSt := (E, R, sQ M, sW M, sY M, sT M)
def wQ (M : mSt) (Q : mQ) : mSt := (sE M, sR M, Q, sW M, sY M, sT M)
def wW (M : mSt) (W : mW) : mSt := (sE M, sR M, sQ M, W, sY M, sT M)
def wY (M : mSt) (Y : mQ) : mSt := (sE M, sR M, sQ M, sW M, Y, sT M)
/-- make -/
def makesE (E : mE) (s : Nat) : mE := (nu (mAl E) s true, mHad E, nu (mKd E) s 0, nu (mPar E) s none, mVal E, mMk E)
def oMake (M : mSt) : mO := if free (sE M) = 32 ∨ wOn (sW M) = true then oErr M 1 else (0, handle (sE M) (free (sE M)), wER M (makesE (sE M) (free (sE M))) (rowAdd (sR M) 0 (free (sE M))))
/-- end: who is on the pile goes, its children come on it -/
def kidsF (E : mE) (s : Nat) : Nat → List Nat
  | 0 => []
  | n + 1 => if mPar E (31 - n) = some s then (31 - n) :: kidsF E s n else kidsF E s n
def kids (E : mE) (s : Nat) : List Nat := kidsF E s 32
def endE (E : mE) (s : Nat) : mE := (nu (mAl E) s false, nu (mHad E) s (mHad E s + 1), nu (mKd E) s 0, nu (mPar E) s none, mVal E, mMk E)
def endR (E : mE) (R : mR) (s : Nat) : mR := rowDel R (row R (mKd E s)) s
def endsL : Nat → List Nat → mE → mR → Nat → mE × mR × Nat
  | 0, _, E, R, c => (E, R, c)
  | _ + 1, [], E, R, c => (E, R, c)
  | n + 1, s :: st, E, R, c => endsL n (kidsF E s 32 ++ st) (endE E s) (endR E R s) (c + 1)
def ends (E : mE) (R : mR) (s : Nat) : mE × mR × Nat := endsL 40 [s] E R 0
def oEnd (M : mSt) (x : Int32) : mO := match look (sE M) x with
  | none => oErr M 1
  | some s => if wOn (sW M) = true then oErr M 2 else (0, nI (ends (sE M) (sR M) s).2.2, wER M (ends (sE M) (sR M) s).1 (ends (sE M) (sR M) s).2.1)
/-- adopt -/
def anc (E : mE) : Nat → Nat → Option Nat
  | 0, a => some a
  | n + 1, a => (anc E n a).bind (mPar E)
def goes (E : mE) (a b : Nat) : Prop := ∃ n, anc E n a = some b
noncomputable def goesB (E : mE) (a b : Nat) : Bool := @decide (goes E a b) (Classical.propDecidable _)
def hdlO (E : mE) (r : Option Nat) : Int32 := match r with
  | none => -1
  | some p => handle E p
def lookO (E : mE) (y : Int32) : Option Nat := if y = -1 then none else look E y
noncomputable def oAdopt (M : mSt) (x y : Int32) : mO := match look (sE M) x with
  | none => oErr M 1
  | some s => if y ≠ -1 ∧ look (sE M) y = none then oErr M 1 else if (∃ p, lookO (sE M) y = some p ∧ goesB (sE M) p s = true) then oErr M 2 else if wOn (sW M) = true then oErr M 3 else (0, hdlO (sE M) (mPar (sE M) s), wE M (mAl (sE M), mHad (sE M), mKd (sE M), nu (mPar (sE M)) s (lookO (sE M) y), mVal (sE M), mMk (sE M)))
def cnt (f : Nat → Bool) : Nat → Nat
  | 0 => 0
  | n + 1 => cnt f n + if f n = true then 1 else 0
def oEntities (M : mSt) : mO := oRet M (nI (cnt (mAl (sE M)) 32))
def oIsThere (M : mSt) (x : Int32) : mO := oRet M (bI (look (sE M) x).isSome)
def chl (E : mE) (s : Nat) : Nat → Int32
  | 0 => nI 0
  | n + 1 => if mPar E n = some s then chl E s n ||| (nI 1 <<< (nI n &&& 31)) else chl E s n
def oChildren (M : mSt) (x : Int32) : mO := match look (sE M) x with
  | none => oErr M 1
  | some s => oRet M (chl (sE M) s 32)
/-- components -/
def putE (E : mE) (s k : Nat) (v t : Int32) : mE := (mAl E, mHad E, mKd E, mPar E, nu (mVal E) s (nu (mVal E s) k v), nu (mMk E) s (nu (mMk E s) k t))
def addsE (E : mE) (s k : Nat) (v t : Int32) : mE := becomesE (putE E s k v t) s (setB (mKd E s) k)
def addsR (E : mE) (R : mR) (s k : Nat) : mR := becomesR E R s (setB (mKd E s) k)
def oAdd (M : mSt) (x kd v : Int32) : mO := match look (sE M) x with
  | none => oErr M 1
  | some s => if isK kd = false then oErr M 2 else if bitS (mKd (sE M) s) (ix kd) = true ∨ wOn (sW M) = true then oErr M 3 else (0, nI (setB (mKd (sE M) s) (ix kd)), wER M (addsE (sE M) s (ix kd) v (sT M)) (addsR (sE M) (sR M) s (ix kd)))
/-- a component that is asked for: its code, the slot and the kind -/
def ask (M : mSt) (x kd : Int32) : Nat × Nat × Nat := match look (sE M) x with
  | none => (1, 0, 0)
  | some s => if isK kd = false then (2, 0, 0) else if bitS (mKd (sE M) s) (ix kd) = false then (3, 0, 0) else (0, s, ix kd)
def takesE (E : mE) (s k : Nat) : mE := becomesE E s (clrB (mKd E s) k)
def takesR (E : mE) (R : mR) (s k : Nat) : mR := becomesR E R s (clrB (mKd E s) k)
def oTake (M : mSt) (x kd : Int32) : mO := if (ask M x kd).1 ≠ 0 then oErr M (ask M x kd).1 else if wOn (sW M) = true then oErr M 3 else (0, mVal (sE M) (ask M x kd).2.1 (ask M x kd).2.2, wER M (takesE (sE M) (ask M x kd).2.1 (ask M x kd).2.2) (takesR (sE M) (sR M) (ask M x kd).2.1 (ask M x kd).2.2))
def oSet (M : mSt) (x kd v : Int32) : mO := if (ask M x kd).1 ≠ 0 then oErr M (ask M x kd).1 else (0, mVal (sE M) (ask M x kd).2.1 (ask M x kd).2.2, wE M (putE (sE M) (ask M x kd).2.1 (ask M x kd).2.2 v (sT M)))
def oValue (M : mSt) (x kd : Int32) : mO := if (ask M x kd).1 ≠ 0 then oErr M (ask M x kd).1 else oRet M (mVal (sE M) (ask M x kd).2.1 (ask M x kd).2.2)
def oMark (M : mSt) (x kd : Int32) : mO := if (ask M x kd).1 ≠ 0 then oErr M (ask M x kd).1 else oRet M (mMk (sE M) (ask M x kd).2.1 (ask M x kd).2.2)
def oKinds (M : mSt) (x : Int32) : mO := match look (sE M) x with
  | none => oErr M 1
  | some s => oRet M (nI (mKd (sE M) s))
/-- rows -/
def oRows (M : mSt) : mO := oRet M (nI (rN (sR M)))
def oSetOf (M : mSt) (x : Int32) : mO := if inB x (rN (sR M)) = true then oRet M (nI (rS (sR M) (ix x))) else oErr M 1
def oSize (M : mSt) (x : Int32) : mO := if inB x (rN (sR M)) = true then oRet M (nI (rZ (sR M) (ix x))) else oErr M 1
def oEntityAt (M : mSt) (x y : Int32) : mO := if inB x (rN (sR M)) = true ∧ inB y (rZ (sR M) (ix x)) = true then oRet M (handle (sE M) (rM (sR M) (ix x) (ix y))) else oErr M 1
/-- questions -/
def ansQ (Q : mQ) (q n : Nat) : Bool := ansB (Q.2.1 q) (Q.2.2.1 q) (Q.2.2.2 q) n
def oQuestion (M : mSt) (a o y : Int32) : mO := if isS a = false ∨ isS o = false ∨ isS y = false then oErr M 1 else if (sQ M).1 = 8 then oErr M 2 else (0, nI (sQ M).1, wQ M ((sQ M).1 + 1, nu (sQ M).2.1 (sQ M).1 (ix a), nu (sQ M).2.2.1 (sQ M).1 (ix o), nu (sQ M).2.2.2 (sQ M).1 (ix y)))
def aTo (Q : mQ) (R : mR) (q : Nat) : Nat → Nat
  | 0 => 0
  | r + 1 => aTo Q R q r + if ansQ Q q (rS R r) = true then rZ R r else 0
def aAt (Q : mQ) (R : mR) (q p : Nat) : Nat → Option Nat
  | 0 => none
  | r + 1 => if aTo Q R q r ≤ p ∧ p < aTo Q R q (r + 1) then some (rM R r (p - aTo Q R q r)) else aAt Q R q p r
def aN (Q : mQ) (R : mR) (q : Nat) : Nat := aTo Q R q (rN R)
def aP (Q : mQ) (R : mR) (q p : Nat) : Option Nat := aAt Q R q p (rN R)
def oAnswers (M : mSt) (x : Int32) : mO := if inB x (sQ M).1 = true then oRet M (nI (aN (sQ M) (sR M) (ix x))) else oErr M 1
def oOneByOne (M : mSt) (x : Int32) : mO := if inB x (sQ M).1 = true then oRet M (nI (cnt (fun k => mAl (sE M) k && ansQ (sQ M) (ix x) (mKd (sE M) k)) 32)) else oErr M 1
def oAnswer (M : mSt) (x y : Int32) : mO := if inB x (sQ M).1 = true ∧ inB y (aN (sQ M) (sR M) (ix x)) = true then oRet M (hdlO (sE M) (aP (sQ M) (sR M) (ix x) (ix y))) else oErr M 1
def oAnsRows (M : mSt) (x : Int32) : mO := if inB x (sQ M).1 = true then oRet M (nI (cnt (fun r => ansQ (sQ M) (ix x) (rS (sR M) r)) (rN (sR M)))) else oErr M 1
def mkd (E : mE) (k : Nat) (t : Int32) : Nat → Bool
  | 0 => false
  | i + 1 => mkd E k t i || (bitS (mKd E k) i && decide (t < mMk E k i))
def oChanged (M : mSt) (x t : Int32) : mO := if inB x (sQ M).1 = true then oRet M (nI (cnt (fun k => mkd (sE M) k t 6 && mAl (sE M) k && ansQ (sQ M) (ix x) (mKd (sE M) k)) 32)) else oErr M 1
/-- walks -/
def mC0 : mC := (0, fun _ => 0, fun _ => 0, fun _ => 0, fun _ => 0)
def oWalk (M : mSt) (x : Int32) : mO := if inB x (sQ M).1 = false then oErr M 1 else if wOn (sW M) = true then oErr M 2 else (0, nI (aN (sQ M) (sR M) (ix x)), wW M (true, (aN (sQ M) (sR M) (ix x), fun p => (aP (sQ M) (sR M) (ix x) p).getD 0, 0), mC0))
def oNext (M : mSt) : mO := if wOn (sW M) = false then oErr M 1 else if wTold (sW M) = wN (sW M) then (0, -1, M) else (0, handle (sE M) (wA (sW M) (wTold (sW M))), wW M (true, (wN (sW M), wA (sW M), wTold (sW M) + 1), wC (sW M)))
def cAdd (C : mC) (c h k v : Int32) : mC := (C.1 + 1, nu C.2.1 C.1 c, nu C.2.2.1 C.1 h, nu C.2.2.2.1 C.1 k, nu C.2.2.2.2 C.1 v)
def oDefer (M : mSt) (c h k v : Int32) : mO := if inB c 4 = false then oErr M 1 else if wOn (sW M) = false ∨ (wC (sW M)).1 = 20 then oErr M 2 else (0, nI ((wC (sW M)).1 + 1), wW M (true, (wN (sW M), wA (sW M), wTold (sW M)), cAdd (wC (sW M)) c h k v))
/-- one waiting command: whether it was done, and the store then -/
def doC (E : mE) (R : mR) (t c h k v : Int32) : Bool × mE × mR :=
  if c = nI 3 then (if free E = 32 ∨ isK k = false then (false, E, R) else (true, addsE (makesE E (free E)) (free E) (ix k) v t, addsR (makesE E (free E)) (rowAdd R 0 (free E)) (free E) (ix k)))
  else match look E h with
    | none => (false, E, R)
    | some s => if c = nI 2 then (true, (ends E R s).1, (ends E R s).2.1) else if isK k = false then (false, E, R) else if c = nI 0 then (if bitS (mKd E s) (ix k) = true then (false, E, R) else (true, addsE E s (ix k) v t, addsR E R s (ix k))) else (if bitS (mKd E s) (ix k) = false then (false, E, R) else (true, takesE E s (ix k), takesR E R s (ix k)))
def doN (E : mE) (R : mR) (C : mC) (t : Int32) : Nat → Nat × mE × mR
  | 0 => (0, E, R)
  | n + 1 => ((doN E R C t n).1 + (if (doC (doN E R C t n).2.1 (doN E R C t n).2.2 t (C.2.1 n) (C.2.2.1 n) (C.2.2.2.1 n) (C.2.2.2.2 n)).1 = true then 1 else 0), (doC (doN E R C t n).2.1 (doN E R C t n).2.2 t (C.2.1 n) (C.2.2.1 n) (C.2.2.2.1 n) (C.2.2.2.2 n)).2)
def oFinish (M : mSt) : mO := if wOn (sW M) = false then oErr M 1 else (0, nI (doN (sE M) (sR M) (wC (sW M)) (sT M) (wC (sW M)).1).1, ((doN (sE M) (sR M) (wC (sW M)) (sT M) (wC (sW M)).1).2.1, (doN (sE M) (sR M) (wC (sW M)) (sT M) (wC (sW M)).1).2.2, sQ M, (false, (wN (sW M), wA (sW M), wTold (sW M)), wC (sW M)), sY M, sT M))
/-- systems -/
def stgTo (Y : mQ) (rd wr : Nat) : Nat → Nat
  | 0 => 0
  | k + 1 => if barB rd wr (Y.2.1 k) (Y.2.2.1 k) = true ∧ stgTo Y rd wr k ≤ Y.2.2.2 k then Y.2.2.2 k + 1 else stgTo Y rd wr k
def oSystem (M : mSt) (a b : Int32) : mO := if isS a = false ∨ isS b = false then oErr M 1 else if (sY M).1 = 8 then oErr M 2 else (0, nI (stgTo (sY M) (ix a) (ix b) (sY M).1), wY M ((sY M).1 + 1, nu (sY M).2.1 (sY M).1 (ix a), nu (sY M).2.2.1 (sY M).1 (ix b), nu (sY M).2.2.2 (sY M).1 (stgTo (sY M) (ix a) (ix b) (sY M).1)))
def oStage (M : mSt) (x : Int32) : mO := if inB x (sY M).1 = true then oRet M (nI ((sY M).2.2.2 (ix x))) else oErr M 1
def stgs (Y : mQ) : Nat → Nat
  | 0 => 0
  | k + 1 => if stgs Y k < Y.2.2.2 k + 1 then Y.2.2.2 k + 1 else stgs Y k
def oStages (M : mSt) : mO := oRet M (nI (stgs (sY M) (sY M).1))
def sumK (rd : Nat) (f : Nat → Int32) : Nat → Int32
  | 0 => nI 1
  | i + 1 => if bitS rd i = true then sumK rd f i + f i else sumK rd f i
def cntK (wr : Nat) : Nat → Nat
  | 0 => 0
  | i + 1 => cntK wr i + if bitS wr i = true then 1 else 0
def workV (rd wr : Nat) (f : Nat → Int32) : Nat → Int32 := fun i => if i < 6 ∧ bitS wr i = true then f i + sumK rd f 6 else f i
def workM (wr : Nat) (t : Int32) (f : Nat → Int32) : Nat → Int32 := fun i => if i < 6 ∧ bitS wr i = true then t else f i
def hitB (E : mE) (n k : Nat) : Bool := mAl E k && subB (mKd E k) n
/-- a system over all entities of the set p -/
def sysE (E : mE) (rd wr : Nat) (t : Int32) (p : Nat → Bool) : mE := (mAl E, mHad E, mKd E, mPar E, (fun k => if p k = true then workV rd wr (mVal E k) else mVal E k), fun k => if p k = true then workM wr t (mMk E k) else mMk E k)
def runK (Y : mQ) (t : Int32) (s : Nat) (E : mE) : Nat → mE × Int32
  | 0 => (E, 0)
  | k + 1 => if Y.2.2.2 k = s then (sysE (runK Y t s E k).1 (Y.2.1 k) (Y.2.2.1 k) t (hitB E (Y.2.1 k ||| Y.2.2.1 k)), (runK Y t s E k).2 + nI (cnt (hitB E (Y.2.1 k ||| Y.2.2.1 k)) 32 * cntK (Y.2.2.1 k) 6)) else runK Y t s E k
def runS (Y : mQ) (t : Int32) (E : mE) : Nat → mE × Int32
  | 0 => (E, 0)
  | s + 1 => ((runK Y t s (runS Y t E s).1 Y.1).1, (runS Y t E s).2 + (runK Y t s (runS Y t E s).1 Y.1).2)
def oRun (M : mSt) : mO := if wOn (sW M) = true then oErr M 1 else (0, (runS (sY M) (sT M + 1) (sE M) (stgs (sY M) (sY M).1)).2, ((runS (sY M) (sT M + 1) (sE M) (stgs (sY M) (sY M).1)).1, sR M, sQ M, sW M, sY M, sT M + 1))
def oTick (M : mSt) : mO := oRet M (sT M)
