/-! the law's loop: what holds between two acts -/
theorem EV.sub {D : va_G} {T : Nat → ClassId} {dE mi : Nat} {A B : Nat → Prop} {U : State} (h : EV D T dE mi A U) (hAB : ∀ q, B q → A q) : EV D T dE mi B U :=
  ⟨h.1, ⟨h.2.1.1.narrow hAB, h.2.1.2.1.narrow hAB, fun z => h.2.1.2.2 (hAB _ z)⟩, ⟨h.2.2.1.1.narrow hAB, h.2.2.1.2.narrow hAB⟩, h.2.2.2⟩
section KSA
variable {p : Program} {l : Launch} {e : Env} {R : Room} {s : State} {m : MethodId} {args : Array Value} {below : List Frame} {meth : Method} {c : Code} {H : Heap} {locs : List Loc} {cells slots : Nat} {Q : State → Prop}
variable {cc : ByteArray} {pc : Nat} {ls : Array Slot} {rest st0 : List Value} {D : va_G} {T : Nat → ClassId} {dE mi : Nat} {A A1 : Nat → Prop} {H0 : Heap} {a : Array Value}
variable {y : MethodName} {bytes : ByteArray} {maxL nL mc ms n index : Nat} {ret : Option FieldType} {ws : List Cond} {rm : Room} {Qc : Array Value → State → Outcome → State → Prop} {XC : String → State → State → Prop} {Ts : List Cond} {own C : String} {b : Addr} {As : List Value}
/-- a static call of one that writes less -/
theorem k_SA (S : CallFix p m c cc nL s args Ts own) (hev : EV D T dE mi A s) (hS : va_S A s.heap H locs) (hAB : ∀ q, A1 q → A q) (hM : vx_Met l y ws rm (PcE D T dE mi A1 H As) Qc XC mc ms A1) (cw : CallB R s args own index y bytes maxL ret ws rm mc ms n ∧ (Cond.static y).before args s = true)
    (hn : As.length = n) (hsize : ls.size = nL) (hW : (rest.map fun v => v.category).sum ≤ 8) (hdg : decode cc pc = .ok (.invokestatic index, 3)) (hc : cells + mc ≤ R.cells) (hs : slots + ms ≤ R.slots) :
    vx_Run p l e R s m args below meth c H locs cells slots mc ms (F0 m pc ls (As.reverse ++ rest)) rest (Qc As.toArray) XC A1 :=
  vx_runS S hM cw ⟨PcE.blind, fun U hU hW => ⟨rfl, hU, (hev.go hS hU hW).sub hAB⟩⟩ rfl hn hsize rfl (lv_room hW) hdg ⟨hc, hs⟩
/-- a call of one that writes less -/
theorem k_iA {P : Int32 → Heap → Prop} (hr : vx_Run p l e R s m args below meth c H locs cells slots mc ms (F0 m pc ls st0) rest (QI A1 P a) (XX A1 XN) A1) (hS : va_S A H0 H locs) (hAB : ∀ q, A1 q → A q)
    (kk : ∀ (r : Int32) (H1 : Heap) (locs1 : List Loc), P r H1 → H.size ≤ H1.size → (∀ q : Nat, q < H.size → ¬ A1 q → H1[q]? = H[q]?) → va_S A H0 H1 locs1 → W p l e R s m args below meth c H1 locs1 (cells + mc) (slots + ms) Q (F0 m (pc + 3) ls (.int r :: rest))) : W p l e R s m args below meth c H locs cells slots Q (F0 m pc ls st0) :=
  vx_calli hr hS (fun _ _ h => hAB _ h) (fun _ h => hAB _ h) (fun _ _ h => hAB _ h)
    (fun E ce q9 u t H1 locs1 ht _ _ hb hz _ hS1 h7 h8 h9 => hb.2.elim)
    (fun r u t H1 locs1 ht _ hp hb hz hk hS1 => kk r H1 locs1 (by rw [← ht, hb]; exact hp) hz hk hS1)
theorem k_vA {P : Heap → Prop} (hr : vx_Run p l e R s m args below meth c H locs cells slots mc ms (F0 m pc ls st0) rest (QV A1 P a) (XX A1 XN) A1) (hS : va_S A H0 H locs) (hAB : ∀ q, A1 q → A q)
    (kk : ∀ (H1 : Heap) (locs1 : List Loc), P H1 → H.size ≤ H1.size → (∀ q : Nat, q < H.size → ¬ A1 q → H1[q]? = H[q]?) → va_S A H0 H1 locs1 → W p l e R s m args below meth c H1 locs1 (cells + mc) (slots + ms) Q (F0 m (pc + 3) ls rest)) : W p l e R s m args below meth c H locs cells slots Q (F0 m pc ls st0) :=
  vx_callv hr hS (fun _ _ h => hAB _ h) (fun _ h => hAB _ h) (fun _ _ h => hAB _ h)
    (fun E ce q9 u t H1 locs1 ht _ _ hb hz _ hS1 h7 h8 h9 => hb.2.elim)
    (fun u t H1 locs1 ht _ hp hb hz hk hS1 => kk H1 locs1 (by rw [← ht, hb]; exact hp) hz hk hS1)
/-- a call where nothing is thrown -/
theorem k_iN {P : Int32 → Heap → Prop} (hr : vx_Run p l e R s m args below meth c H locs cells slots mc ms (F0 m pc ls st0) rest (QI A P a) (XX A XN) A) (hS : va_S A H0 H locs)
    (kk : ∀ (r : Int32) (H1 : Heap) (locs1 : List Loc), P r H1 → H.size ≤ H1.size → va_S A H0 H1 locs1 → W p l e R s m args below meth c H1 locs1 (cells + mc) (slots + ms) Q (F0 m (pc + 3) ls (.int r :: rest))) : W p l e R s m args below meth c H locs cells slots Q (F0 m pc ls st0) :=
  k_i hr hS (fun _ _ _ _ _ h _ _ _ _ _ => h.elim) kk
end KSA
/-- a walk: what is told, and the commands that wait -/
def LWk (Y : Nat → Nat → Int32) (E : mE) (W : mW) : Prop := Y 9 4 = bI (wOn W) ∧ (wOn W = true → Y 9 5 = nI (wTold W) ∧ Y 9 6 = nI (wN W) ∧ Y 9 7 = nI (wC W).1 ∧ (wC W).1 ≤ 16 ∧ wN W ≤ 10 ∧ (∀ i, i < wN W → Y 7 i = handle E (wA W i)) ∧ ∀ i, i < (wC W).1 → Y 8 (4 * i) = (wC W).2.1 i ∧ Y 8 (4 * i + 1) = (wC W).2.2.1 i ∧ Y 8 (4 * i + 2) = (wC W).2.2.2.1 i ∧ Y 8 (4 * i + 3) = (wC W).2.2.2.2 i)
def LRel (Y : Nat → Nat → Int32) (M : mSt) : Prop := LTw Y (sE M) (sR M) ∧ LQ Y (sQ M) ∧ LYs Y (sY M) ∧ Y 9 1 = sT M ∧ LWk Y (sE M) (sW M)
section LRS
variable {Y Y1 : Nat → Nat → Int32} {M : mSt}
theorem LWk.off {E E1 : mE} {W : mW} (h : LWk Y E W) (hoff : wOn W = false) (e : Y1 9 4 = Y 9 4) : LWk Y1 E1 W := ⟨e.trans h.1, fun z => by rw [hoff] at z; cases z⟩
theorem LWk.keep {E E1 : mE} {W : mW} (h : LWk Y E W) (hh : mHad E1 = mHad E) (e7 : Y1 7 = Y 7) (e8 : Y1 8 = Y 8) (e : ∀ i, 4 ≤ i → i ≤ 7 → Y1 9 i = Y 9 i) : LWk Y1 E1 W := by
  refine ⟨(e 4 (by decide) (by decide)).trans h.1, fun z => ?_⟩
  obtain ⟨a1, a2, a3, a4, a5, a6, a7⟩ := h.2 z
  refine ⟨(e 5 (by decide) (by decide)).trans a1, (e 6 (by decide) (by decide)).trans a2, (e 7 (by decide) (by decide)).trans a3, a4, a5, fun i hi => ?_, fun i hi => by rw [e8]; exact a7 i hi⟩
  rw [e7, a6 i hi]
  unfold handle
  rw [hh]
theorem LQ.same {Q : mQ} (h : LQ Y Q) (e5 : Y1 5 = Y 5) (e : Y1 9 2 = Y 9 2) : LQ Y1 Q := ⟨e.trans h.1, fun i hi => by rw [e5]; exact h.2 i hi⟩
theorem LYs.same {Z : mQ} (h : LYs Y Z) (e6 : Y1 6 = Y 6) (e : Y1 9 3 = Y 9 3) : LYs Y1 Z := ⟨e.trans h.1, fun i hi => by rw [e6]; exact h.2 i hi⟩
/-- entities and rows change, no walk goes on -/
theorem LRel.er {E1 : mE} {R1 : mR} (h : LRel Y M) (hoff : wOn (sW M) = false) (hT : LTw Y1 E1 R1) (hj : ∀ j, j ≠ 1 → j ≠ 2 → j ≠ 3 → j ≠ 4 → j ≠ 9 → Y1 j = Y j) (hi : ∀ i, i ≠ 0 → Y1 9 i = Y 9 i) : LRel Y1 (wER M E1 R1) :=
  ⟨hT, h.2.1.same (hj 5 (by decide) (by decide) (by decide) (by decide) (by decide)) (hi 2 (by decide)), h.2.2.1.same (hj 6 (by decide) (by decide) (by decide) (by decide) (by decide)) (hi 3 (by decide)), (hi 1 (by decide)).trans h.2.2.2.1, h.2.2.2.2.off hoff (hi 4 (by decide))⟩
/-- entities change, handles don't -/
theorem LRel.e {E1 : mE} (h : LRel Y M) (hh : mHad E1 = mHad (sE M)) (hT : LTw Y1 E1 (sR M)) (hj : ∀ j, j ≠ 1 → j ≠ 2 → j ≠ 3 → Y1 j = Y j) : LRel Y1 (wE M E1) := by
  have h9 := hj 9 (by decide) (by decide) (by decide)
  exact ⟨hT, h.2.1.same (hj 5 (by decide) (by decide) (by decide)) (by rw [h9]), h.2.2.1.same (hj 6 (by decide) (by decide) (by decide)) (by rw [h9]), (by rw [h9]; exact h.2.2.2.1), h.2.2.2.2.keep hh (hj 7 (by decide) (by decide) (by decide)) (hj 8 (by decide) (by decide) (by decide)) (fun i _ _ => by rw [h9])⟩
end LRS
/-- if fewer than ten are there, the lowest free slot is below ten -/
theorem free_10 {E : mE} (h : cnt (mAl E) 10 < 10) : free E < 10 := by
  obtain ⟨i, e, h32, h1, h2⟩ := free_ex E
  rw [e]
  rcases Nat.lt_or_ge i 10 with c | c
  · exact c
  · have h3 : cnt (mAl E) 10 = 10 := by
      have := cnt_same (f := mAl E) (g := fun _ => true) 10 (fun k hk => h1 k (by omega))
      rw [this, cnt_all]
    omega
theorem ad_1 {M : mSt} {x kd v : Int32} (hl : look (sE M) x = none) : oAdd M x kd v = oErr M 1 := by unfold oAdd; rw [hl]
theorem ad_3 {M : mSt} {x v : Int32} {sl i : Nat} (hl : look (sE M) x = some sl) (hi : i < 6) (h : bitS (mKd (sE M) sl) i = true ∨ wOn (sW M) = true) : oAdd M x (nI i) v = oErr M 3 := by
  unfold oAdd; rw [hl]; show (if isK (nI i) = false then _ else _) = _
  rw [if_neg (by rw [isK_nI hi]; decide), ix_nI (by omega), if_pos h]
theorem ad_0 {M : mSt} {x v : Int32} {sl i : Nat} (hl : look (sE M) x = some sl) (hi : i < 6) (hb : bitS (mKd (sE M) sl) i = false) (hw : wOn (sW M) = false) : oAdd M x (nI i) v = (0, nI (setB (mKd (sE M) sl) i), wER M (addsE (sE M) sl i v (sT M)) (addsR (sE M) (sR M) sl i)) := by
  unfold oAdd; rw [hl]; show (if isK (nI i) = false then _ else _) = _
  rw [if_neg (by rw [isK_nI hi]; decide), ix_nI (by omega), if_neg (fun z => by rw [hb, hw] at z; rcases z with z | z <;> cases z)]
theorem tk_e {M : mSt} {x kd : Int32} (h : (ask M x kd).1 ≠ 0) : oTake M x kd = oErr M (ask M x kd).1 := if_pos h
theorem tk_3 {M : mSt} {x : Int32} {sl i : Nat} (h : ask M x (nI i) = (0, sl, i)) (hw : wOn (sW M) = true) : oTake M x (nI i) = oErr M 3 := by
  unfold oTake; rw [h, if_neg (fun z => z rfl), if_pos hw]
theorem tk_0 {M : mSt} {x : Int32} {sl i : Nat} (h : ask M x (nI i) = (0, sl, i)) (hw : wOn (sW M) = false) : oTake M x (nI i) = (0, mVal (sE M) sl i, wER M (takesE (sE M) sl i) (takesR (sE M) (sR M) sl i)) := by
  unfold oTake; rw [h, if_neg (fun z => z rfl), if_neg (by rw [hw]; decide)]
theorem mak_1 {M : mSt} (hw : wOn (sW M) = true) : oMake M = oErr M 1 := if_pos (Or.inr hw)
theorem mak_0 {M : mSt} (hw : wOn (sW M) = false) (hf : free (sE M) < 10) : oMake M = (0, handle (sE M) (free (sE M)), wER M (makesE (sE M) (free (sE M))) (rowAdd (sR M) 0 (free (sE M)))) := if_neg (fun z => by
  rcases z with z | z
  · omega
  · rw [hw] at z; cases z)
theorem en_e1 {M : mSt} {x : Int32} (hl : look (sE M) x = none) : oEnd M x = oErr M 1 := by unfold oEnd; rw [hl]
theorem en_e2 {M : mSt} {x : Int32} {sl : Nat} (hl : look (sE M) x = some sl) (hw : wOn (sW M) = true) : oEnd M x = oErr M 2 := by unfold oEnd; rw [hl]; exact if_pos hw
theorem en_e0 {M : mSt} {x : Int32} {sl : Nat} (hl : look (sE M) x = some sl) (hw : wOn (sW M) = false) : oEnd M x = (0, nI (ends (sE M) (sR M) sl).2.2, wER M (ends (sE M) (sR M) sl).1 (ends (sE M) (sR M) sl).2.1) := by unfold oEnd; rw [hl]; exact if_neg (by rw [hw]; decide)
theorem bit_set1 : ∀ d, d < 64 → ∀ q, q < 6 → nI d ||| (nI 1 <<< (nI q &&& 31)) = nI (setB d q) ∧ setB d q < 64 := by decide +kernel
theorem bit_clr1 : ∀ d, d < 64 → ∀ q, q < 6 → nI d &&& ((nI 1 <<< (nI q &&& 31)) ^^^ (-1)) = nI (clrB d q) ∧ clrB d q < 64 := by decide +kernel
