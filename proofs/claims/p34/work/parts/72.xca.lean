/-! the class's calls, in the words of the pure model: what each answers, what each leaves, which class it throws -/
def RepT (D : va_G) (T : Nat → ClassId) (dE b : Nat) (A : Nat → Prop) (tg : Nat → Nat) (H : Heap) (M : mSt) : Prop := ∃ (y : mLy) (zq zy : mLz) (wo : Option Nat), Core D T dE b tg H A (sE M) (sR M) y wo (sT M) ∧ RepQ D T dE b tg H (sQ M) zq ∧ RepY D T dE b tg H (sY M) zy ∧ RepW D T dE b tg H (sW M) wo ∧ wOn (sW M) = wo.isSome
def RXn (D : va_G) (T : Nat → ClassId) (dE b : Nat) (A : Nat → Prop) (tg : Nat → Nat) (H H1 : Heap) (M : mSt) : Prop := ∃ tg1 : Nat → Nat, RepT D T dE b A tg1 H1 M ∧ TX tg H tg1 ∧ FR tg (fun t => t ≠ 0 ∧ t ≠ 7 ∧ t ≠ 8) H H1
def PO (D : va_G) (T : Nat → ClassId) (dE b : Nat) (A : Nat → Prop) (tg : Nat → Nat) (H : Heap) (o : mO) : Int32 → Heap → Prop := fun r H1 => o.1 = 0 ∧ r = o.2.1 ∧ RXn D T dE b A tg H H1 o.2.2
def XP (H : Heap) (k : Nat) (q : List (String × Nat)) : String → Heap → Prop := fun E H1 => (E, k) ∈ q ∧ KP H H1
section REPT
variable {D : va_G} {T : Nat → ClassId} {dE b : Nat} {A : Nat → Prop} {tg : Nat → Nat} {H H1 : Heap} {M : mSt}
theorem RepT.nx (h : RepT D T dE b A tg H M) : RXn D T dE b A tg H H M := ⟨tg, h, TX.rf, FR.rf⟩
theorem RepT.kp (h : RepT D T dE b A tg H M) (hk : KP H H1) : RepT D T dE b A tg H1 M := by
  obtain ⟨y, zq, zy, wo, h1, h2, h3, h4, h5⟩ := h
  exact ⟨y, zq, zy, wo, h1.kp hk, h2.kept TX.rf (FR.kp (S := fun _ => False) hk) id id id id, h3.kept TX.rf (FR.kp (S := fun _ => False) hk) id id id id, h4.kept TX.rf (FR.kp (S := fun _ => False) hk) id (fun _ z => z.elim), h5⟩
theorem RepT.kn (h : RepT D T dE b A tg H M) (hk : KP H H1) : RXn D T dE b A tg H H1 M := ⟨tg, h.kp hk, TX.rf, FR.kp hk⟩
theorem CS0 {t : Nat} (h : CS t) : t ≠ 0 ∧ t ≠ 7 ∧ t ≠ 8 := by unfold CS at h; omega
/-- entities and rows have changed, all else is as before -/
theorem RepT.co {M1 : mSt} {zq zy : mLz} {wo : Option Nat} (h2 : RepQ D T dE b tg H (sQ M) zq) (h3 : RepY D T dE b tg H (sY M) zy) (h4 : RepW D T dE b tg H (sW M) wo) (h5 : wOn (sW M) = wo.isSome) (hn : Nxt D T dE b A tg H H1 (sE M1) (sR M1) wo (sT M)) (e1 : sQ M1 = sQ M ∧ sW M1 = sW M ∧ sY M1 = sY M ∧ sT M1 = sT M) : RXn D T dE b A tg H H1 M1 := by
  obtain ⟨tg1, y1, hC, tx, f⟩ := hn
  obtain ⟨e2, e3, e4, e5⟩ := e1
  refine ⟨tg1, ⟨y1, zq, zy, wo, by rw [e5]; exact hC, by rw [e2]; exact h2.kept tx f (by unfold CS; omega) (by unfold CS; omega) (by unfold CS; omega) (by unfold CS; omega), by rw [e4]; exact h3.kept tx f (by unfold CS; omega) (by unfold CS; omega) (by unfold CS; omega) (by unfold CS; omega), by rw [e3]; exact h4.kept tx f (by unfold CS; omega) (fun t z => by unfold CS at z; omega), by rw [e3]; exact h5⟩, tx, f.wk (fun t z => CS0 z)⟩
end REPT
theorem k_make {M : mSt} : sQ (oMake M).2.2 = sQ M ∧ sW (oMake M).2.2 = sW M ∧ sY (oMake M).2.2 = sY M ∧ sT (oMake M).2.2 = sT M := by unfold oMake; split <;> exact ⟨rfl, rfl, rfl, rfl⟩
theorem k_end {M : mSt} {x : Int32} : sQ (oEnd M x).2.2 = sQ M ∧ sW (oEnd M x).2.2 = sW M ∧ sY (oEnd M x).2.2 = sY M ∧ sT (oEnd M x).2.2 = sT M := by
  unfold oEnd
  split
  · exact ⟨rfl, rfl, rfl, rfl⟩
  · split <;> exact ⟨rfl, rfl, rfl, rfl⟩
theorem k_adopt {M : mSt} {x y : Int32} : sQ (oAdopt M x y).2.2 = sQ M ∧ sW (oAdopt M x y).2.2 = sW M ∧ sY (oAdopt M x y).2.2 = sY M ∧ sT (oAdopt M x y).2.2 = sT M := by
  unfold oAdopt
  split
  · exact ⟨rfl, rfl, rfl, rfl⟩
  · split
    · exact ⟨rfl, rfl, rfl, rfl⟩
    · split
      · exact ⟨rfl, rfl, rfl, rfl⟩
      · split <;> exact ⟨rfl, rfl, rfl, rfl⟩
theorem k_add {M : mSt} {x y z : Int32} : sQ (oAdd M x y z).2.2 = sQ M ∧ sW (oAdd M x y z).2.2 = sW M ∧ sY (oAdd M x y z).2.2 = sY M ∧ sT (oAdd M x y z).2.2 = sT M := by
  unfold oAdd
  split
  · exact ⟨rfl, rfl, rfl, rfl⟩
  · split
    · exact ⟨rfl, rfl, rfl, rfl⟩
    · split <;> exact ⟨rfl, rfl, rfl, rfl⟩
theorem k_take {M : mSt} {x y : Int32} : sQ (oTake M x y).2.2 = sQ M ∧ sW (oTake M x y).2.2 = sW M ∧ sY (oTake M x y).2.2 = sY M ∧ sT (oTake M x y).2.2 = sT M := by
  unfold oTake
  split
  · exact ⟨rfl, rfl, rfl, rfl⟩
  · split <;> exact ⟨rfl, rfl, rfl, rfl⟩
theorem XA.xp {H H1 : Heap} {c : Nat} {E9 : String} (h : XA H c E9 H1) : XP H c [("java/util/NoSuchElementException", 1), ("java/lang/IllegalArgumentException", 2), ("java/lang/IllegalStateException", 3)] E9 H1 := by
  refine ⟨?_, h.2⟩
  rcases h.1 with ⟨a, c⟩ | ⟨a, c⟩ | ⟨a, c⟩ <;> (rw [a, c]; decide)
theorem xp1 {H H1 : Heap} {k : Nat} {E E9 : String} (h : XE H (fun z => z = E ∧ k = 1) E9 H1) : XP H k [(E, 1)] E9 H1 := ⟨by rw [h.1.1, h.1.2]; exact List.mem_cons_self, h.2⟩
theorem xp2 {H H1 : Heap} {k : Nat} {E F E9 : String} (h : XE H (fun z => (z = E ∧ k = 1) ∨ (z = F ∧ k = 2)) E9 H1) : XP H k [(E, 1), (F, 2)] E9 H1 := by
  refine ⟨?_, h.2⟩
  rcases h.1 with ⟨a, c⟩ | ⟨a, c⟩
  · rw [a, c]; exact List.mem_cons_self
  · rw [a, c]; exact List.mem_cons_of_mem _ List.mem_cons_self
set_option maxHeartbeats 4000000 in
set_option maxRecDepth 100000 in
theorem u_make (l : Launch) {D : va_G} {T : Nat → ClassId} {dE mi : Nat} (hst : l.stackTraces = false) {A : Nat → Prop} {H : Heap} {b0 bd : Nat} {tg : Nat → Nat} {M : mSt} (hR : RepT D T dE b0 A tg H M) (hI : Inv bd M) : vx_Met l yX6_make wsX6_make (rmL 9 6 123) (PcE D T dE mi A H [.ref b0]) (QI A (PO D T dE b0 A tg H (oMake M))) (XX A (XP H (oMake M).1 [("java/lang/IllegalStateException", 1)])) 6 123 A := by
  obtain ⟨y, zq, zy, wo, hC, hQ, hY, hW, hwo⟩ := id hR
  obtain ⟨hT, hX, hE, hr⟩ := id hC
  obtain ⟨iE, iR, iQ, iW, iY, hbd, hbh⟩ := id hI
  refine vq_i (c_X6_make l hst hC iE iR hwo) (fun r H1 h => ?_) (fun E9 H1 h => ?_)
  · exact ⟨h.1, h.2.1, RepT.co hQ hY hW hwo h.2.2 k_make⟩
  · exact xp1 h
set_option maxHeartbeats 4000000 in
set_option maxRecDepth 100000 in
theorem u_end (l : Launch) {D : va_G} {T : Nat → ClassId} {dE mi : Nat} (hst : l.stackTraces = false) {A : Nat → Prop} {H : Heap} {b0 bd : Nat} {tg : Nat → Nat} {M : mSt} (hR : RepT D T dE b0 A tg H M) (hI : Inv bd M) (x : Int32) : vx_Met l yX6_end wsX6_end (rmL 9 7 95) (PcE D T dE mi A H [.ref b0, .int x]) (QI A (PO D T dE b0 A tg H (oEnd M x))) (XX A (XP H (oEnd M x).1 [("java/util/NoSuchElementException", 1), ("java/lang/IllegalStateException", 2)])) 7 95 A := by
  obtain ⟨y, zq, zy, wo, hC, hQ, hY, hW, hwo⟩ := id hR
  obtain ⟨hT, hX, hE, hr⟩ := id hC
  obtain ⟨iE, iR, iQ, iW, iY, hbd, hbh⟩ := id hI
  refine vq_i (c_X6_end l hst hC iE iR hwo x) (fun r H1 h => ?_) (fun E9 H1 h => ?_)
  · exact ⟨h.1, h.2.1, RepT.co hQ hY hW hwo h.2.2 k_end⟩
  · exact xp2 h
set_option maxHeartbeats 4000000 in
set_option maxRecDepth 100000 in
theorem u_adopt (l : Launch) {D : va_G} {T : Nat → ClassId} {dE mi : Nat} (hst : l.stackTraces = false) {A : Nat → Prop} {H : Heap} {b0 bd : Nat} {tg : Nat → Nat} {M : mSt} (hR : RepT D T dE b0 A tg H M) (hI : Inv bd M) (x x2 : Int32) : vx_Met l yX6_adopt wsX6_adopt (rmL 7 4 24) (PcE D T dE mi A H [.ref b0, .int x, .int x2]) (QI A (PO D T dE b0 A tg H (oAdopt M x x2))) (XX A (XP H (oAdopt M x x2).1 [("java/util/NoSuchElementException", 1), ("java/lang/IllegalArgumentException", 2), ("java/lang/IllegalStateException", 3)])) 4 24 A := by
  obtain ⟨y, zq, zy, wo, hC, hQ, hY, hW, hwo⟩ := id hR
  obtain ⟨hT, hX, hE, hr⟩ := id hC
  obtain ⟨iE, iR, iQ, iW, iY, hbd, hbh⟩ := id hI
  refine vq_i (c_X6_adopt l hst hC iE iR hwo x x2) (fun r H1 h => ?_) (fun E9 H1 h => ?_)
  · exact ⟨h.1, h.2.1, RepT.co hQ hY hW hwo h.2.2 k_adopt⟩
  · exact h.xp
set_option maxHeartbeats 4000000 in
set_option maxRecDepth 100000 in
theorem u_add (l : Launch) {D : va_G} {T : Nat → ClassId} {dE mi : Nat} (hst : l.stackTraces = false) {A : Nat → Prop} {H : Heap} {b0 bd : Nat} {tg : Nat → Nat} {M : mSt} (hR : RepT D T dE b0 A tg H M) (hI : Inv bd M) (x kd v : Int32) : vx_Met l yX6_add wsX6_add (rmL 10 7 129) (PcE D T dE mi A H [.ref b0, .int x, .int kd, .int v]) (QI A (PO D T dE b0 A tg H (oAdd M x kd v))) (XX A (XP H (oAdd M x kd v).1 [("java/util/NoSuchElementException", 1), ("java/lang/IllegalArgumentException", 2), ("java/lang/IllegalStateException", 3)])) 7 129 A := by
  obtain ⟨y, zq, zy, wo, hC, hQ, hY, hW, hwo⟩ := id hR
  obtain ⟨hT, hX, hE, hr⟩ := id hC
  obtain ⟨iE, iR, iQ, iW, iY, hbd, hbh⟩ := id hI
  refine vq_i (c_X6_add l hst hC iE iR hwo x kd v) (fun r H1 h => ?_) (fun E9 H1 h => ?_)
  · exact ⟨h.1, h.2.1, RepT.co hQ hY hW hwo h.2.2 k_add⟩
  · exact h.xp
set_option maxHeartbeats 4000000 in
set_option maxRecDepth 100000 in
theorem u_take (l : Launch) {D : va_G} {T : Nat → ClassId} {dE mi : Nat} (hst : l.stackTraces = false) {A : Nat → Prop} {H : Heap} {b0 bd : Nat} {tg : Nat → Nat} {M : mSt} (hR : RepT D T dE b0 A tg H M) (hI : Inv bd M) (x kd : Int32) : vx_Met l yX6_take wsX6_take (rmL 10 8 135) (PcE D T dE mi A H [.ref b0, .int x, .int kd]) (QI A (PO D T dE b0 A tg H (oTake M x kd))) (XX A (XP H (oTake M x kd).1 [("java/util/NoSuchElementException", 1), ("java/lang/IllegalArgumentException", 2), ("java/lang/IllegalStateException", 3)])) 8 135 A := by
  obtain ⟨y, zq, zy, wo, hC, hQ, hY, hW, hwo⟩ := id hR
  obtain ⟨hT, hX, hE, hr⟩ := id hC
  obtain ⟨iE, iR, iQ, iW, iY, hbd, hbh⟩ := id hI
  refine vq_i (c_X6_take l hst hC iE iR hwo x kd) (fun r H1 h => ?_) (fun E9 H1 h => ?_)
  · exact ⟨h.1, h.2.1, RepT.co hQ hY hW hwo h.2.2 k_take⟩
  · exact h.xp
set_option maxHeartbeats 4000000 in
set_option maxRecDepth 100000 in
theorem u_entities (l : Launch) {D : va_G} {T : Nat → ClassId} {dE mi : Nat} (hst : l.stackTraces = false) {A : Nat → Prop} {H : Heap} {b0 bd : Nat} {tg : Nat → Nat} {M : mSt} (hR : RepT D T dE b0 A tg H M) (hI : Inv bd M) : vx_Met l yX6_entities wsX6_entities (rmL 0 0 0) (PcE D T dE mi A H [.ref b0]) (QI A (PO D T dE b0 A tg H (oEntities M))) (XX A XN) 0 0 A := by
  obtain ⟨y, zq, zy, wo, hC, hQ, hY, hW, hwo⟩ := id hR
  obtain ⟨hT, hX, hE, hr⟩ := id hC
  obtain ⟨iE, iR, iQ, iW, iY, hbd, hbh⟩ := id hI
  refine vq_i (c_X6_entities l hst hX hE) (fun r H1 h => ?_) (fun E9 H1 h => ?_)
  · obtain ⟨e1, e2⟩ := h
    rw [e1, e2]
    exact ⟨rfl, rfl, hR.nx⟩
  · exact h
set_option maxHeartbeats 4000000 in
set_option maxRecDepth 100000 in
theorem u_isThere (l : Launch) {D : va_G} {T : Nat → ClassId} {dE mi : Nat} (hst : l.stackTraces = false) {A : Nat → Prop} {H : Heap} {b0 bd : Nat} {tg : Nat → Nat} {M : mSt} (hR : RepT D T dE b0 A tg H M) (hI : Inv bd M) (x : Int32) : vx_Met l yX6_isThere wsX6_isThere (rmL 1 0 0) (PcE D T dE mi A H [.ref b0, .int x]) (QI A (PO D T dE b0 A tg H (oIsThere M x))) (XX A XN) 0 0 A := by
  obtain ⟨y, zq, zy, wo, hC, hQ, hY, hW, hwo⟩ := id hR
  obtain ⟨hT, hX, hE, hr⟩ := id hC
  obtain ⟨iE, iR, iQ, iW, iY, hbd, hbh⟩ := id hI
  refine vq_i (c_X6_isThere l hst hX hE x) (fun r H1 h => ?_) (fun E9 H1 h => ?_)
  · obtain ⟨e1, e2⟩ := h
    rw [e1, e2]
    exact ⟨rfl, rfl, hR.nx⟩
  · exact h
set_option maxHeartbeats 4000000 in
set_option maxRecDepth 100000 in
theorem u_rows (l : Launch) {D : va_G} {T : Nat → ClassId} {dE mi : Nat} (hst : l.stackTraces = false) {A : Nat → Prop} {H : Heap} {b0 bd : Nat} {tg : Nat → Nat} {M : mSt} (hR : RepT D T dE b0 A tg H M) (hI : Inv bd M) : vx_Met l yX6_rows wsX6_rows (rmL 1 0 0) (PcE D T dE mi A H [.ref b0]) (QI A (PO D T dE b0 A tg H (oRows M))) (XX A XN) 0 0 A := by
  obtain ⟨y, zq, zy, wo, hC, hQ, hY, hW, hwo⟩ := id hR
  obtain ⟨hT, hX, hE, hr⟩ := id hC
  obtain ⟨iE, iR, iQ, iW, iY, hbd, hbh⟩ := id hI
  refine vq_i (c_X6_rows l hst hX hr) (fun r H1 h => ?_) (fun E9 H1 h => ?_)
  · obtain ⟨e1, e2⟩ := h
    rw [e1, e2]
    exact ⟨rfl, rfl, hR.nx⟩
  · exact h
set_option maxHeartbeats 4000000 in
set_option maxRecDepth 100000 in
theorem u_stages (l : Launch) {D : va_G} {T : Nat → ClassId} {dE mi : Nat} (hst : l.stackTraces = false) {A : Nat → Prop} {H : Heap} {b0 bd : Nat} {tg : Nat → Nat} {M : mSt} (hR : RepT D T dE b0 A tg H M) (hI : Inv bd M) : vx_Met l yX6_stages wsX6_stages (rmL 3 0 0) (PcE D T dE mi A H [.ref b0]) (QI A (PO D T dE b0 A tg H (oStages M))) (XX A XN) 0 0 A := by
  obtain ⟨y, zq, zy, wo, hC, hQ, hY, hW, hwo⟩ := id hR
  obtain ⟨hT, hX, hE, hr⟩ := id hC
  obtain ⟨iE, iR, iQ, iW, iY, hbd, hbh⟩ := id hI
  refine vq_i (c_X6_stages l hst hX hY iY) (fun r H1 h => ?_) (fun E9 H1 h => ?_)
  · obtain ⟨e1, e2⟩ := h
    rw [e1, e2]
    exact ⟨rfl, rfl, hR.nx⟩
  · exact h
set_option maxHeartbeats 4000000 in
set_option maxRecDepth 100000 in
theorem u_tick (l : Launch) {D : va_G} {T : Nat → ClassId} {dE mi : Nat} (hst : l.stackTraces = false) {A : Nat → Prop} {H : Heap} {b0 bd : Nat} {tg : Nat → Nat} {M : mSt} (hR : RepT D T dE b0 A tg H M) (hI : Inv bd M) : vx_Met l yX6_tick wsX6_tick (rmL 0 0 0) (PcE D T dE mi A H [.ref b0]) (QI A (PO D T dE b0 A tg H (oTick M))) (XX A XN) 0 0 A := by
  obtain ⟨y, zq, zy, wo, hC, hQ, hY, hW, hwo⟩ := id hR
  obtain ⟨hT, hX, hE, hr⟩ := id hC
  obtain ⟨iE, iR, iQ, iW, iY, hbd, hbh⟩ := id hI
  refine vq_i (c_X6_tick l hst hX.1) (fun r H1 h => ?_) (fun E9 H1 h => ?_)
  · obtain ⟨e1, e2⟩ := h
    rw [e1, e2]
    exact ⟨rfl, rfl, hR.nx⟩
  · exact h
theorem chl_1 {M : mSt} {x : Int32} (h : look (sE M) x = none) : oChildren M x = oErr M 1 := by unfold oChildren; rw [h]
theorem chl_0 {M : mSt} {x : Int32} {sl : Nat} (h : look (sE M) x = some sl) : oChildren M x = oRet M (chl (sE M) sl 32) := by unfold oChildren; rw [h]
theorem kin_1 {M : mSt} {x : Int32} (h : look (sE M) x = none) : oKinds M x = oErr M 1 := by unfold oKinds; rw [h]
theorem kin_0 {M : mSt} {x : Int32} {sl : Nat} (h : look (sE M) x = some sl) : oKinds M x = oRet M (nI (mKd (sE M) sl)) := by unfold oKinds; rw [h]
theorem inBf {M : mSt} {x : Int32} {n : Nat} {o : mO} (h : inB x n = false) : (if inB x n = true then o else oErr M 1) = oErr M 1 := if_neg (by rw [h]; decide)
theorem inBt {M : mSt} {j n : Nat} {o : mO} (hj : j < n) (hn : n < 2 ^ 31) : (if inB (nI j) n = true then o else oErr M 1) = o := if_pos (inB_nI hj hn)
set_option maxHeartbeats 4000000 in
set_option maxRecDepth 100000 in
theorem u_children (l : Launch) {D : va_G} {T : Nat → ClassId} {dE mi : Nat} (hst : l.stackTraces = false) {A : Nat → Prop} {H : Heap} {b0 bd : Nat} {tg : Nat → Nat} {M : mSt} (hR : RepT D T dE b0 A tg H M) (hI : Inv bd M) (x : Int32) : vx_Met l yX6_children wsX6_children (rmL 7 1 6) (PcE D T dE mi A H [.ref b0, .int x]) (QI A (PO D T dE b0 A tg H (oChildren M x))) (XX A (XP H (oChildren M x).1 [("java/util/NoSuchElementException", 1)])) 1 6 A := by
  obtain ⟨y, zq, zy, wo, hC, hQ, hY, hW, hwo⟩ := id hR
  obtain ⟨hT, hX, hE, hr⟩ := id hC
  obtain ⟨iE, iR, iQ, iW, iY, hbd, hbh⟩ := id hI
  refine vq_i (c_X6_children l hst hX hE iE x) (fun r H1 h => ?_) (fun E9 H1 h => ?_)
  · obtain ⟨e1, sl, hl, e2⟩ := h
    rw [e1, e2, chl_0 hl]
    exact ⟨rfl, rfl, hR.nx⟩
  · exact xp1 ⟨⟨h.1.1, by rw [chl_1 h.1.2]; rfl⟩, h.2⟩
set_option maxHeartbeats 4000000 in
set_option maxRecDepth 100000 in
theorem u_kinds (l : Launch) {D : va_G} {T : Nat → ClassId} {dE mi : Nat} (hst : l.stackTraces = false) {A : Nat → Prop} {H : Heap} {b0 bd : Nat} {tg : Nat → Nat} {M : mSt} (hR : RepT D T dE b0 A tg H M) (hI : Inv bd M) (x : Int32) : vx_Met l yX6_kinds wsX6_kinds (rmL 7 1 6) (PcE D T dE mi A H [.ref b0, .int x]) (QI A (PO D T dE b0 A tg H (oKinds M x))) (XX A (XP H (oKinds M x).1 [("java/util/NoSuchElementException", 1)])) 1 6 A := by
  obtain ⟨y, zq, zy, wo, hC, hQ, hY, hW, hwo⟩ := id hR
  obtain ⟨hT, hX, hE, hr⟩ := id hC
  obtain ⟨iE, iR, iQ, iW, iY, hbd, hbh⟩ := id hI
  refine vq_i (c_X6_kinds l hst hX hE x) (fun r H1 h => ?_) (fun E9 H1 h => ?_)
  · obtain ⟨e1, sl, hl, e2⟩ := h
    rw [e1, e2, kin_0 hl]
    exact ⟨rfl, rfl, hR.nx⟩
  · exact xp1 ⟨⟨h.1.1, by rw [kin_1 h.1.2]; rfl⟩, h.2⟩
theorem val_e {M : mSt} {x kd : Int32} (h : (ask M x kd).1 ≠ 0) : oValue M x kd = oErr M (ask M x kd).1 := if_pos h
theorem val_0 {M : mSt} {x kd : Int32} {sl i : Nat} (h : ask M x kd = (0, sl, i)) : oValue M x kd = oRet M (mVal (sE M) sl i) := by unfold oValue; rw [h]; exact if_neg (fun z => z rfl)
theorem mrk_e {M : mSt} {x kd : Int32} (h : (ask M x kd).1 ≠ 0) : oMark M x kd = oErr M (ask M x kd).1 := if_pos h
theorem mrk_0 {M : mSt} {x kd : Int32} {sl i : Nat} (h : ask M x kd = (0, sl, i)) : oMark M x kd = oRet M (mMk (sE M) sl i) := by unfold oMark; rw [h]; exact if_neg (fun z => z rfl)
theorem set_e {M : mSt} {x kd v : Int32} (h : (ask M x kd).1 ≠ 0) : oSet M x kd v = oErr M (ask M x kd).1 := if_pos h
theorem set_0 {M : mSt} {x kd v : Int32} {sl i : Nat} (h : ask M x kd = (0, sl, i)) : oSet M x kd v = (0, mVal (sE M) sl i, wE M (putE (sE M) sl i v (sT M))) := by unfold oSet; rw [h]; exact if_neg (fun z => z rfl)
theorem XA.ne {H H1 : Heap} {c : Nat} {E9 : String} (h : XA H c E9 H1) : c ≠ 0 := fun z => by rcases h.1 with h | h | h <;> (have := h.2; omega)
set_option maxHeartbeats 4000000 in
set_option maxRecDepth 100000 in
theorem u_value (l : Launch) {D : va_G} {T : Nat → ClassId} {dE mi : Nat} (hst : l.stackTraces = false) {A : Nat → Prop} {H : Heap} {b0 bd : Nat} {tg : Nat → Nat} {M : mSt} (hR : RepT D T dE b0 A tg H M) (hI : Inv bd M) (x kd : Int32) : vx_Met l yX6_value wsX6_value (rmL 8 3 18) (PcE D T dE mi A H [.ref b0, .int x, .int kd]) (QI A (PO D T dE b0 A tg H (oValue M x kd))) (XX A (XP H (oValue M x kd).1 [("java/util/NoSuchElementException", 1), ("java/lang/IllegalArgumentException", 2), ("java/lang/IllegalStateException", 3)])) 3 18 A := by
  obtain ⟨y, zq, zy, wo, hC, hQ, hY, hW, hwo⟩ := id hR
  obtain ⟨hT, hX, hE, hr⟩ := id hC
  obtain ⟨iE, iR, iQ, iW, iY, hbd, hbh⟩ := id hI
  refine vq_i (c_X6_value l hst hX hE iE x kd) (fun r H1 h => ?_) (fun E9 H1 h => ?_)
  · obtain ⟨e1, sl, i, ha, e2⟩ := h
    rw [e1, e2, val_0 ha]
    exact ⟨rfl, rfl, hR.nx⟩
  · rw [val_e h.ne]; exact h.xp
set_option maxHeartbeats 4000000 in
set_option maxRecDepth 100000 in
theorem u_mark (l : Launch) {D : va_G} {T : Nat → ClassId} {dE mi : Nat} (hst : l.stackTraces = false) {A : Nat → Prop} {H : Heap} {b0 bd : Nat} {tg : Nat → Nat} {M : mSt} (hR : RepT D T dE b0 A tg H M) (hI : Inv bd M) (x kd : Int32) : vx_Met l yX6_mark wsX6_mark (rmL 8 3 18) (PcE D T dE mi A H [.ref b0, .int x, .int kd]) (QI A (PO D T dE b0 A tg H (oMark M x kd))) (XX A (XP H (oMark M x kd).1 [("java/util/NoSuchElementException", 1), ("java/lang/IllegalArgumentException", 2), ("java/lang/IllegalStateException", 3)])) 3 18 A := by
  obtain ⟨y, zq, zy, wo, hC, hQ, hY, hW, hwo⟩ := id hR
  obtain ⟨hT, hX, hE, hr⟩ := id hC
  obtain ⟨iE, iR, iQ, iW, iY, hbd, hbh⟩ := id hI
  refine vq_i (c_X6_mark l hst hX hE iE x kd) (fun r H1 h => ?_) (fun E9 H1 h => ?_)
  · obtain ⟨e1, sl, i, ha, e2⟩ := h
    rw [e1, e2, mrk_0 ha]
    exact ⟨rfl, rfl, hR.nx⟩
  · rw [mrk_e h.ne]; exact h.xp
set_option maxHeartbeats 4000000 in
set_option maxRecDepth 100000 in
theorem u_set (l : Launch) {D : va_G} {T : Nat → ClassId} {dE mi : Nat} (hst : l.stackTraces = false) {A : Nat → Prop} {H : Heap} {b0 bd : Nat} {tg : Nat → Nat} {M : mSt} (hR : RepT D T dE b0 A tg H M) (hI : Inv bd M) (x kd v : Int32) : vx_Met l yX6_set wsX6_set (rmL 8 3 18) (PcE D T dE mi A H [.ref b0, .int x, .int kd, .int v]) (QI A (PO D T dE b0 A tg H (oSet M x kd v))) (XX A (XP H (oSet M x kd v).1 [("java/util/NoSuchElementException", 1), ("java/lang/IllegalArgumentException", 2), ("java/lang/IllegalStateException", 3)])) 3 18 A := by
  obtain ⟨y, zq, zy, wo, hC, hQ, hY, hW, hwo⟩ := id hR
  obtain ⟨hT, hX, hE, hr⟩ := id hC
  obtain ⟨iE, iR, iQ, iW, iY, hbd, hbh⟩ := id hI
  refine vq_i (c_X6_set l hst hX hE iE (fun q h1 h2 => hT.a (hT.2.2.2.2 q h1 h2) (by decide)) x kd v) (fun r H1 h => ?_) (fun E9 H1 h => ?_)
  · obtain ⟨sl, i, ha, e2, hE1, hz1, hq1⟩ := h
    rw [e2, set_0 ha]
    have f : FR tg CS H H1 := ⟨by omega, fun q h1 h2 => hq1 q (by
      by_cases c : q < b0 + 5 ∨ b0 + 101 ≤ q
      · exact c
      · exact absurd (Or.inl (hT.2.2.2.2 q (by omega) (by omega))) h2)⟩
    have f5 : FR tg (fun t => t = 5) H H1 := ⟨by omega, fun q h1 h2 => hq1 q (by
      by_cases c : q < b0 + 5 ∨ b0 + 101 ≤ q
      · exact c
      · exact absurd (hT.2.2.2.2 q (by omega) (by omega)) h2)⟩
    exact ⟨rfl, rfl, RepT.co (M1 := wE M (putE (sE M) sl i v (sT M))) hQ hY hW hwo ⟨tg, y, ⟨hT.kept f.1, hX.keptF hT f5 (by decide) (by decide), hE1, hr.kept TX.rf f5 (fun t (z : t = 5) => by omega)⟩, TX.rf, f⟩ ⟨rfl, rfl, rfl, rfl⟩⟩
  · rw [set_e h.ne]; exact h.xp
set_option maxHeartbeats 4000000 in
set_option maxRecDepth 100000 in
theorem u_setOf (l : Launch) {D : va_G} {T : Nat → ClassId} {dE mi : Nat} (hst : l.stackTraces = false) {A : Nat → Prop} {H : Heap} {b0 bd : Nat} {tg : Nat → Nat} {M : mSt} (hR : RepT D T dE b0 A tg H M) (hI : Inv bd M) (x : Int32) : vx_Met l yX6_setOf wsX6_setOf (rmL 7 1 6) (PcE D T dE mi A H [.ref b0, .int x]) (QI A (PO D T dE b0 A tg H (oSetOf M x))) (XX A (XP H (oSetOf M x).1 [("java/lang/IndexOutOfBoundsException", 1)])) 1 6 A := by
  obtain ⟨y, zq, zy, wo, hC, hQ, hY, hW, hwo⟩ := id hR
  obtain ⟨hT, hX, hE, hr⟩ := id hC
  obtain ⟨iE, iR, iQ, iW, iY, hbd, hbh⟩ := id hI
  refine vq_i (c_X6_setOf l hst hX hr x) (fun r H1 h => ?_) (fun E9 H1 h => ?_)
  · obtain ⟨e1, j, hx, hj, e2⟩ := h
    have h64 := iR.2.2.2.2.2.1
    subst hx
    rw [e1, e2, show oSetOf M (nI j) = oRet M (nI (rS (sR M) j)) by unfold oSetOf; rw [inBt hj (by omega), ix_nI (by omega)]]
    exact ⟨rfl, rfl, hR.nx⟩
  · exact xp1 ⟨⟨h.1.1, by rw [show oSetOf M x = oErr M 1 from inBf h.1.2]; rfl⟩, h.2⟩
set_option maxHeartbeats 4000000 in
set_option maxRecDepth 100000 in
theorem u_size (l : Launch) {D : va_G} {T : Nat → ClassId} {dE mi : Nat} (hst : l.stackTraces = false) {A : Nat → Prop} {H : Heap} {b0 bd : Nat} {tg : Nat → Nat} {M : mSt} (hR : RepT D T dE b0 A tg H M) (hI : Inv bd M) (x : Int32) : vx_Met l yX6_size wsX6_size (rmL 7 1 6) (PcE D T dE mi A H [.ref b0, .int x]) (QI A (PO D T dE b0 A tg H (oSize M x))) (XX A (XP H (oSize M x).1 [("java/lang/IndexOutOfBoundsException", 1)])) 1 6 A := by
  obtain ⟨y, zq, zy, wo, hC, hQ, hY, hW, hwo⟩ := id hR
  obtain ⟨hT, hX, hE, hr⟩ := id hC
  obtain ⟨iE, iR, iQ, iW, iY, hbd, hbh⟩ := id hI
  refine vq_i (c_X6_size l hst hX hr x) (fun r H1 h => ?_) (fun E9 H1 h => ?_)
  · obtain ⟨e1, j, hx, hj, e2⟩ := h
    have h64 := iR.2.2.2.2.2.1
    subst hx
    rw [e1, e2, show oSize M (nI j) = oRet M (nI (rZ (sR M) j)) by unfold oSize; rw [inBt hj (by omega), ix_nI (by omega)]]
    exact ⟨rfl, rfl, hR.nx⟩
  · exact xp1 ⟨⟨h.1.1, by rw [show oSize M x = oErr M 1 from inBf h.1.2]; rfl⟩, h.2⟩
set_option maxHeartbeats 4000000 in
set_option maxRecDepth 100000 in
theorem u_entityAt (l : Launch) {D : va_G} {T : Nat → ClassId} {dE mi : Nat} (hst : l.stackTraces = false) {A : Nat → Prop} {H : Heap} {b0 bd : Nat} {tg : Nat → Nat} {M : mSt} (hR : RepT D T dE b0 A tg H M) (hI : Inv bd M) (x x2 : Int32) : vx_Met l yX6_entityAt wsX6_entityAt (rmL 7 2 12) (PcE D T dE mi A H [.ref b0, .int x, .int x2]) (QI A (PO D T dE b0 A tg H (oEntityAt M x x2))) (XX A (XP H (oEntityAt M x x2).1 [("java/lang/IndexOutOfBoundsException", 1)])) 2 12 A := by
  obtain ⟨y, zq, zy, wo, hC, hQ, hY, hW, hwo⟩ := id hR
  obtain ⟨hT, hX, hE, hr⟩ := id hC
  obtain ⟨iE, iR, iQ, iW, iY, hbd, hbh⟩ := id hI
  refine vq_i (c_X6_entityAt l hst hX hr hE iE iR x x2) (fun r H1 h => ?_) (fun E9 H1 h => ?_)
  · obtain ⟨e1, j, i, hx, hj, hx2, hi, e2⟩ := h
    have h64 := iR.2.2.2.2.2.1
    have h32 := iR.2.2.2.2.2.2 j hj
    subst hx hx2
    rw [e1, e2, show oEntityAt M (nI j) (nI i) = oRet M (handle (sE M) (rM (sR M) j i)) by unfold oEntityAt; rw [ix_nI (by omega), ix_nI (by omega)]; exact if_pos ⟨inB_nI hj (by omega), inB_nI hi (by omega)⟩]
    exact ⟨rfl, rfl, hR.nx⟩
  · have h64 := iR.2.2.2.2.2.1
    refine xp1 ⟨⟨h.1.1, ?_⟩, h.2⟩
    rw [show oEntityAt M x x2 = oErr M 1 from if_neg (fun z => by
      rcases h.1.2 with c | ⟨j, hx, hj, c⟩
      · rw [c] at z; cases z.1
      · rw [hx, ix_nI (by omega), c] at z; cases z.2)]
    rfl
