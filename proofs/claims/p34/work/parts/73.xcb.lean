section REPU
variable {D : va_G} {T : Nat → ClassId} {dE b : Nat} {A : Nat → Prop} {tg tg1 : Nat → Nat} {H H1 : Heap} {E : mE} {R : mR} {y : mLy} {wo : Option Nat} {tk : Int32} {S : Nat → Prop}
theorem Core.fr (h : Core D T dE b tg H A E R y wo tk) (hT1 : TG A b H1 tg1) (tx : TX tg H tg1) (f : FR tg S H H1) (hs : ∀ t, S t → 100 ≤ t ∧ t < 1000) : Core D T dE b tg1 H1 A E R y wo tk :=
  ⟨hT1, h.2.1.keptF h.1 f (fun z => by have := hs _ z; omega) (fun z => by have := hs _ z; omega), h.2.2.1.keptF h.1 f (fun z => by have := hs _ z; omega), h.2.2.2.kept tx f (fun t z => by have := hs _ z; omega)⟩
end REPU
theorem ans_1 {M : mSt} {x : Int32} (h : inB x (sQ M).1 = false) : oAnswers M x = oErr M 1 := inBf h
theorem one_1 {M : mSt} {x : Int32} (h : inB x (sQ M).1 = false) : oOneByOne M x = oErr M 1 := inBf h
theorem arw_1 {M : mSt} {x : Int32} (h : inB x (sQ M).1 = false) : oAnsRows M x = oErr M 1 := inBf h
theorem chg_1 {M : mSt} {x t : Int32} (h : inB x (sQ M).1 = false) : oChanged M x t = oErr M 1 := inBf h
theorem sge_1 {M : mSt} {x : Int32} (h : inB x (sY M).1 = false) : oStage M x = oErr M 1 := inBf h
set_option maxHeartbeats 4000000 in
set_option maxRecDepth 100000 in
theorem u_question (l : Launch) {D : va_G} {T : Nat → ClassId} {dE mi : Nat} (hst : l.stackTraces = false) {A : Nat → Prop} {H : Heap} {b0 bd : Nat} {tg : Nat → Nat} {M : mSt} (hR : RepT D T dE b0 A tg H M) (hI : Inv bd M) (x1 x2 x3 : Int32) : vx_Met l yX6_question wsX6_question (rmL 8 5 94) (PcE D T dE mi A H [.ref b0, .int x1, .int x2, .int x3]) (QI A (PO D T dE b0 A tg H (oQuestion M x1 x2 x3))) (XX A (XP H (oQuestion M x1 x2 x3).1 [("java/lang/IllegalArgumentException", 1), ("java/lang/IllegalStateException", 2)])) 5 94 A := by
  obtain ⟨y, zq, zy, wo, hC, hQ, hY, hW, hwo⟩ := id hR
  obtain ⟨hT, hX, hE, hr⟩ := id hC
  obtain ⟨iE, iR, iQ, iW, iY, hbd, hbh⟩ := id hI
  refine vq_i (c_X6_question l hst hC iE iR hwo hQ iQ x1 x2 x3) (fun r H1 h => ?_) (fun E9 H1 h => ?_)
  · obtain ⟨e1, e2, tg1, zq1, t1, tx, hq1, f⟩ := h
    refine ⟨e1, e2, tg1, ⟨y, zq1, zy, wo, ?_, hq1, ?_, ?_, ?_⟩, tx, f.wk (fun t z => by omega)⟩
    · have k : sE (oQuestion M x1 x2 x3).2.2 = sE M ∧ sR (oQuestion M x1 x2 x3).2.2 = sR M ∧ sT (oQuestion M x1 x2 x3).2.2 = sT M := by unfold oQuestion; split; exact ⟨rfl, rfl, rfl⟩; split <;> exact ⟨rfl, rfl, rfl⟩
      rw [k.1, k.2.1, k.2.2]; exact hC.fr t1 tx f (fun t z => by omega)
    · have k : sY (oQuestion M x1 x2 x3).2.2 = sY M := by unfold oQuestion; split; rfl; split <;> rfl
      rw [k]; exact hY.kept tx f (by omega) (by omega) (by omega) (by omega)
    · have k : sW (oQuestion M x1 x2 x3).2.2 = sW M := by unfold oQuestion; split; rfl; split <;> rfl
      rw [k]; exact hW.kept tx f (by omega) (fun t z => by omega)
    · have k : sW (oQuestion M x1 x2 x3).2.2 = sW M := by unfold oQuestion; split; rfl; split <;> rfl
      rw [k]; exact hwo
  · exact xp2 h
set_option maxHeartbeats 4000000 in
set_option maxRecDepth 100000 in
theorem u_system (l : Launch) {D : va_G} {T : Nat → ClassId} {dE mi : Nat} (hst : l.stackTraces = false) {A : Nat → Prop} {H : Heap} {b0 bd : Nat} {tg : Nat → Nat} {M : mSt} (hR : RepT D T dE b0 A tg H M) (hI : Inv bd M) (x1 x2 : Int32) : vx_Met l yX6_system wsX6_system (rmL 8 4 88) (PcE D T dE mi A H [.ref b0, .int x1, .int x2]) (QI A (PO D T dE b0 A tg H (oSystem M x1 x2))) (XX A (XP H (oSystem M x1 x2).1 [("java/lang/IllegalArgumentException", 1), ("java/lang/IllegalStateException", 2)])) 4 88 A := by
  obtain ⟨y, zq, zy, wo, hC, hQ, hY, hW, hwo⟩ := id hR
  obtain ⟨hT, hX, hE, hr⟩ := id hC
  obtain ⟨iE, iR, iQ, iW, iY, hbd, hbh⟩ := id hI
  refine vq_i (c_X6_system l hst hC iE iR hwo hY iY x1 x2) (fun r H1 h => ?_) (fun E9 H1 h => ?_)
  · obtain ⟨e1, e2, tg1, zy1, t1, tx, hy1, f⟩ := h
    refine ⟨e1, e2, tg1, ⟨y, zq, zy1, wo, ?_, ?_, hy1, ?_, ?_⟩, tx, f.wk (fun t z => by omega)⟩
    · have k : sE (oSystem M x1 x2).2.2 = sE M ∧ sR (oSystem M x1 x2).2.2 = sR M ∧ sT (oSystem M x1 x2).2.2 = sT M := by unfold oSystem; split; exact ⟨rfl, rfl, rfl⟩; split <;> exact ⟨rfl, rfl, rfl⟩
      rw [k.1, k.2.1, k.2.2]; exact hC.fr t1 tx f (fun t z => by omega)
    · have k : sQ (oSystem M x1 x2).2.2 = sQ M := by unfold oSystem; split; rfl; split <;> rfl
      rw [k]; exact hQ.kept tx f (by omega) (by omega) (by omega) (by omega)
    · have k : sW (oSystem M x1 x2).2.2 = sW M := by unfold oSystem; split; rfl; split <;> rfl
      rw [k]; exact hW.kept tx f (by omega) (fun t z => by omega)
    · have k : sW (oSystem M x1 x2).2.2 = sW M := by unfold oSystem; split; rfl; split <;> rfl
      rw [k]; exact hwo
  · exact xp2 h
set_option maxHeartbeats 4000000 in
set_option maxRecDepth 100000 in
theorem u_answers (l : Launch) {D : va_G} {T : Nat → ClassId} {dE mi : Nat} (hst : l.stackTraces = false) {A : Nat → Prop} {H : Heap} {b0 bd : Nat} {tg : Nat → Nat} {M : mSt} (hR : RepT D T dE b0 A tg H M) (hI : Inv bd M) (x : Int32) : vx_Met l yX6_answers wsX6_answers (rmL 7 1 6) (PcE D T dE mi A H [.ref b0, .int x]) (QI A (PO D T dE b0 A tg H (oAnswers M x))) (XX A (XP H (oAnswers M x).1 [("java/lang/IndexOutOfBoundsException", 1)])) 1 6 A := by
  obtain ⟨y, zq, zy, wo, hC, hQ, hY, hW, hwo⟩ := id hR
  obtain ⟨hT, hX, hE, hr⟩ := id hC
  obtain ⟨iE, iR, iQ, iW, iY, hbd, hbh⟩ := id hI
  refine vq_i (c_X6_answers l hst hX hr hQ iQ iR.1 x) (fun r H1 h => ?_) (fun E9 H1 h => ?_)
  · obtain ⟨e1, j, hx, hj, e2⟩ := h
    have h8 := iQ.1
    subst hx
    rw [e1, e2, show oAnswers M (nI j) = oRet M (nI (aN (sQ M) (sR M) j)) by unfold oAnswers; rw [inBt hj (by omega), ix_nI (by omega)]]
    exact ⟨rfl, rfl, hR.nx⟩
  · exact xp1 ⟨⟨h.1.1, by rw [ans_1 h.1.2]; rfl⟩, h.2⟩
set_option maxHeartbeats 4000000 in
set_option maxRecDepth 100000 in
theorem u_answersOneByOne (l : Launch) {D : va_G} {T : Nat → ClassId} {dE mi : Nat} (hst : l.stackTraces = false) {A : Nat → Prop} {H : Heap} {b0 bd : Nat} {tg : Nat → Nat} {M : mSt} (hR : RepT D T dE b0 A tg H M) (hI : Inv bd M) (x : Int32) : vx_Met l yX6_answersOneByOne wsX6_answersOneByOne (rmL 7 1 6) (PcE D T dE mi A H [.ref b0, .int x]) (QI A (PO D T dE b0 A tg H (oOneByOne M x))) (XX A (XP H (oOneByOne M x).1 [("java/lang/IndexOutOfBoundsException", 1)])) 1 6 A := by
  obtain ⟨y, zq, zy, wo, hC, hQ, hY, hW, hwo⟩ := id hR
  obtain ⟨hT, hX, hE, hr⟩ := id hC
  obtain ⟨iE, iR, iQ, iW, iY, hbd, hbh⟩ := id hI
  refine vq_i (c_X6_answersOneByOne l hst hX hE iE hQ iQ x) (fun r H1 h => ?_) (fun E9 H1 h => ?_)
  · obtain ⟨e1, j, hx, hj, e2⟩ := h
    have h8 := iQ.1
    subst hx
    rw [e1, e2, show oOneByOne M (nI j) = oRet M (nI (cnt (fun k => mAl (sE M) k && ansQ (sQ M) j (mKd (sE M) k)) 32)) by unfold oOneByOne; rw [inBt hj (by omega), ix_nI (by omega)]]
    exact ⟨rfl, rfl, hR.nx⟩
  · exact xp1 ⟨⟨h.1.1, by rw [one_1 h.1.2]; rfl⟩, h.2⟩
set_option maxHeartbeats 4000000 in
set_option maxRecDepth 100000 in
theorem u_answeringRows (l : Launch) {D : va_G} {T : Nat → ClassId} {dE mi : Nat} (hst : l.stackTraces = false) {A : Nat → Prop} {H : Heap} {b0 bd : Nat} {tg : Nat → Nat} {M : mSt} (hR : RepT D T dE b0 A tg H M) (hI : Inv bd M) (x : Int32) : vx_Met l yX6_answeringRows wsX6_answeringRows (rmL 7 1 6) (PcE D T dE mi A H [.ref b0, .int x]) (QI A (PO D T dE b0 A tg H (oAnsRows M x))) (XX A (XP H (oAnsRows M x).1 [("java/lang/IndexOutOfBoundsException", 1)])) 1 6 A := by
  obtain ⟨y, zq, zy, wo, hC, hQ, hY, hW, hwo⟩ := id hR
  obtain ⟨hT, hX, hE, hr⟩ := id hC
  obtain ⟨iE, iR, iQ, iW, iY, hbd, hbh⟩ := id hI
  refine vq_i (c_X6_answeringRows l hst hX hr hQ iQ iR.1 x) (fun r H1 h => ?_) (fun E9 H1 h => ?_)
  · obtain ⟨e1, j, hx, hj, e2⟩ := h
    have h8 := iQ.1
    subst hx
    rw [e1, e2, show oAnsRows M (nI j) = oRet M (nI (cnt (fun r => ansQ (sQ M) j (rS (sR M) r)) (rN (sR M)))) by unfold oAnsRows; rw [inBt hj (by omega), ix_nI (by omega)]]
    exact ⟨rfl, rfl, hR.nx⟩
  · exact xp1 ⟨⟨h.1.1, by rw [arw_1 h.1.2]; rfl⟩, h.2⟩
set_option maxHeartbeats 4000000 in
set_option maxRecDepth 100000 in
theorem u_changed (l : Launch) {D : va_G} {T : Nat → ClassId} {dE mi : Nat} (hst : l.stackTraces = false) {A : Nat → Prop} {H : Heap} {b0 bd : Nat} {tg : Nat → Nat} {M : mSt} (hR : RepT D T dE b0 A tg H M) (hI : Inv bd M) (x x2 : Int32) : vx_Met l yX6_changed wsX6_changed (rmL 9 6 89) (PcE D T dE mi A H [.ref b0, .int x, .int x2]) (QI A (PO D T dE b0 A tg H (oChanged M x x2))) (XX A (XP H (oChanged M x x2).1 [("java/lang/IndexOutOfBoundsException", 1)])) 6 89 A := by
  obtain ⟨y, zq, zy, wo, hC, hQ, hY, hW, hwo⟩ := id hR
  obtain ⟨hT, hX, hE, hr⟩ := id hC
  obtain ⟨iE, iR, iQ, iW, iY, hbd, hbh⟩ := id hI
  refine vq_i (c_X6_changed l hst hX hr hQ iQ iR.1 hE iE iR hT.2.1 x x2) (fun r H1 h => ?_) (fun E9 H1 h => ?_)
  · obtain ⟨hk, j, hx, hj, e2⟩ := h
    have h8 := iQ.1
    subst hx
    rw [e2, show oChanged M (nI j) x2 = oRet M (nI (cnt (fun k => mkd (sE M) k x2 6 && (mAl (sE M) k && ansQ (sQ M) j (mKd (sE M) k))) 32)) by
      unfold oChanged
      rw [inBt hj (by omega), ix_nI (by omega)]
      exact congrArg (fun z => oRet M (nI z)) (cnt_same 32 (fun k _ => Bool.and_assoc _ _ _))]
    exact ⟨rfl, rfl, hR.kn hk⟩
  · exact xp1 ⟨⟨h.1.1, by rw [chg_1 h.1.2]; rfl⟩, h.2⟩
set_option maxHeartbeats 4000000 in
set_option maxRecDepth 100000 in
theorem u_answer (l : Launch) {D : va_G} {T : Nat → ClassId} {dE mi : Nat} (hst : l.stackTraces = false) {A : Nat → Prop} {H : Heap} {b0 bd : Nat} {tg : Nat → Nat} {M : mSt} (hR : RepT D T dE b0 A tg H M) (hI : Inv bd M) (x x2 : Int32) : vx_Met l yX6_answer wsX6_answer (rmL 9 7 95) (PcE D T dE mi A H [.ref b0, .int x, .int x2]) (QI A (PO D T dE b0 A tg H (oAnswer M x x2))) (XX A (XP H (oAnswer M x x2).1 [("java/lang/IndexOutOfBoundsException", 1)])) 7 95 A := by
  obtain ⟨y, zq, zy, wo, hC, hQ, hY, hW, hwo⟩ := id hR
  obtain ⟨hT, hX, hE, hr⟩ := id hC
  obtain ⟨iE, iR, iQ, iW, iY, hbd, hbh⟩ := id hI
  refine vq_i (c_X6_answer l hst hX hr hQ iQ iR.1 hE iE iR hT.2.1 x x2) (fun r H1 h => ?_) (fun E9 H1 h => ?_)
  · obtain ⟨hk, j, i, hx, hj, hx2, hi, e2⟩ := h
    have h8 := iQ.1
    have h32 := aN_le iE iR (Q := sQ M) j
    subst hx hx2
    obtain ⟨k1, e3, -, -⟩ := aP_al iR hi
    rw [e2, show oAnswer M (nI j) (nI i) = oRet M (handle (sE M) ((aP (sQ M) (sR M) j i).getD 0)) by
      unfold oAnswer
      rw [ix_nI (by omega), ix_nI (by omega), if_pos ⟨inB_nI hj (by omega), inB_nI hi (by omega)⟩, e3]; rfl]
    exact ⟨rfl, rfl, hR.kn hk⟩
  · have h8 := iQ.1
    refine xp1 ⟨⟨h.1.1, ?_⟩, h.2⟩
    rw [show oAnswer M x x2 = oErr M 1 from if_neg (fun z => by
      rcases h.1.2 with c | ⟨j, hx, hj, c⟩
      · rw [c] at z; cases z.1
      · rw [hx, ix_nI (by omega), c] at z; cases z.2)]
    rfl
set_option maxHeartbeats 4000000 in
set_option maxRecDepth 100000 in
theorem u_stage (l : Launch) {D : va_G} {T : Nat → ClassId} {dE mi : Nat} (hst : l.stackTraces = false) {A : Nat → Prop} {H : Heap} {b0 bd : Nat} {tg : Nat → Nat} {M : mSt} (hR : RepT D T dE b0 A tg H M) (hI : Inv bd M) (x : Int32) : vx_Met l yX6_stage wsX6_stage (rmL 6 1 6) (PcE D T dE mi A H [.ref b0, .int x]) (QI A (PO D T dE b0 A tg H (oStage M x))) (XX A (XP H (oStage M x).1 [("java/lang/IndexOutOfBoundsException", 1)])) 1 6 A := by
  obtain ⟨y, zq, zy, wo, hC, hQ, hY, hW, hwo⟩ := id hR
  obtain ⟨hT, hX, hE, hr⟩ := id hC
  obtain ⟨iE, iR, iQ, iW, iY, hbd, hbh⟩ := id hI
  refine vq_i (c_X6_stage l hst hX hY iY x) (fun r H1 h => ?_) (fun E9 H1 h => ?_)
  · obtain ⟨e1, j, hx, hj, e2⟩ := h
    have h8 := iY.1
    subst hx
    rw [e1, e2, show oStage M (nI j) = oRet M (nI ((sY M).2.2.2 j)) by unfold oStage; rw [inBt hj (by omega), ix_nI (by omega)]]
    exact ⟨rfl, rfl, hR.nx⟩
  · exact xp1 ⟨⟨h.1.1, by rw [sge_1 h.1.2]; rfl⟩, h.2⟩
set_option maxHeartbeats 4000000 in
set_option maxRecDepth 100000 in
theorem u_walk (l : Launch) {D : va_G} {T : Nat → ClassId} {dE mi : Nat} (hst : l.stackTraces = false) {A : Nat → Prop} {H : Heap} {b0 bd : Nat} {tg : Nat → Nat} {M : mSt} (hR : RepT D T dE b0 A tg H M) (hI : Inv bd M) (x : Int32) : vx_Met l yX6_walk wsX6_walk (rmL 9 9 101) (PcE D T dE mi A H [.ref b0, .int x]) (QI A (PO D T dE b0 A tg H (oWalk M x))) (XX A (XP H (oWalk M x).1 [("java/lang/IndexOutOfBoundsException", 1), ("java/lang/IllegalStateException", 2)])) 9 101 A := by
  obtain ⟨y, zq, zy, wo, hC, hQ, hY, hW, hwo⟩ := id hR
  obtain ⟨hT, hX, hE, hr⟩ := id hC
  obtain ⟨iE, iR, iQ, iW, iY, hbd, hbh⟩ := id hI
  refine vq_i (c_X6_walk l hst hC iE iR hwo hQ iQ x) (fun r H1 h => ?_) (fun E9 H1 h => ?_)
  · obtain ⟨e1, e2, tg1, w1, t1, tx, hX1, hW1, f⟩ := h
    have k : sE (oWalk M x).2.2 = sE M ∧ sR (oWalk M x).2.2 = sR M ∧ sT (oWalk M x).2.2 = sT M ∧ sQ (oWalk M x).2.2 = sQ M ∧ sY (oWalk M x).2.2 = sY M := by unfold oWalk; split; exact ⟨rfl, rfl, rfl, rfl, rfl⟩; split <;> exact ⟨rfl, rfl, rfl, rfl, rfl⟩
    obtain ⟨k1, k2, k3, k4, k5⟩ := k
    refine ⟨e1, e2, tg1, ⟨y, zq, zy, w1, ?_, ?_, ?_, hW1, ?_⟩, tx, f.wk (fun t z => by omega)⟩
    · rw [k1, k2, k3]; exact ⟨t1, hX1, hE.keptF hT f (by omega), hr.kept tx f (fun t z => by omega)⟩
    · rw [k4]; exact hQ.kept tx f (by omega) (by omega) (by omega) (by omega)
    · rw [k5]; exact hY.kept tx f (by omega) (by omega) (by omega) (by omega)
    · rcases hW1 with ⟨a1, a2⟩ | ⟨a1, _, _, _, _, _, _, a2, _⟩
      · rw [a1, a2]; rfl
      · rw [a1, a2]; rfl
  · exact xp2 h
set_option maxHeartbeats 4000000 in
set_option maxRecDepth 100000 in
theorem u_next (l : Launch) {D : va_G} {T : Nat → ClassId} {dE mi : Nat} (hst : l.stackTraces = false) {A : Nat → Prop} {H : Heap} {b0 bd : Nat} {tg : Nat → Nat} {M : mSt} (hR : RepT D T dE b0 A tg H M) (hI : Inv bd M) : vx_Met l yX6_next wsX6_next (rmL 7 1 6) (PcE D T dE mi A H [.ref b0]) (QI A (PO D T dE b0 A tg H (oNext M))) (XX A (XP H (oNext M).1 [("java/lang/IllegalStateException", 1)])) 1 6 A := by
  obtain ⟨y, zq, zy, wo, hC, hQ, hY, hW, hwo⟩ := id hR
  obtain ⟨hT, hX, hE, hr⟩ := id hC
  obtain ⟨iE, iR, iQ, iW, iY, hbd, hbh⟩ := id hI
  refine vq_i (c_X6_next l hst hC iE iR hwo hW iW) (fun r H1 h => ?_) (fun E9 H1 h => ?_)
  · obtain ⟨e1, e2, hz, hW1, f⟩ := h
    have k : sE (oNext M).2.2 = sE M ∧ sR (oNext M).2.2 = sR M ∧ sT (oNext M).2.2 = sT M ∧ sQ (oNext M).2.2 = sQ M ∧ sY (oNext M).2.2 = sY M := by unfold oNext; split; exact ⟨rfl, rfl, rfl, rfl, rfl⟩; split <;> exact ⟨rfl, rfl, rfl, rfl, rfl⟩
    obtain ⟨k1, k2, k3, k4, k5⟩ := k
    refine ⟨e1, e2, tg, ⟨y, zq, zy, wo, ?_, ?_, ?_, hW1, ?_⟩, TX.rf, f.wk (fun t z => by omega)⟩
    · rw [k1, k2, k3]; exact hC.fr (hT.kept f.1) TX.rf f (fun t z => by omega)
    · rw [k4]; exact hQ.kept TX.rf f (by omega) (by omega) (by omega) (by omega)
    · rw [k5]; exact hY.kept TX.rf f (by omega) (by omega) (by omega) (by omega)
    · rcases hW1 with ⟨a1, a2⟩ | ⟨a1, _, _, _, _, _, _, a2, _⟩
      · rw [a1, a2]; rfl
      · rw [a1, a2]; rfl
  · exact xp1 h
set_option maxHeartbeats 4000000 in
set_option maxRecDepth 100000 in
theorem u_defer (l : Launch) {D : va_G} {T : Nat → ClassId} {dE mi : Nat} (hst : l.stackTraces = false) {A : Nat → Prop} {H : Heap} {b0 bd : Nat} {tg : Nat → Nat} {M : mSt} (hR : RepT D T dE b0 A tg H M) (hI : Inv bd M) (x1 x2 x3 x4 : Int32) : vx_Met l yX6_defer wsX6_defer (rmL 8 3 83) (PcE D T dE mi A H [.ref b0, .int x1, .int x2, .int x3, .int x4]) (QI A (PO D T dE b0 A tg H (oDefer M x1 x2 x3 x4))) (XX A (XP H (oDefer M x1 x2 x3 x4).1 [("java/lang/IllegalArgumentException", 1), ("java/lang/IllegalStateException", 2)])) 3 83 A := by
  obtain ⟨y, zq, zy, wo, hC, hQ, hY, hW, hwo⟩ := id hR
  obtain ⟨hT, hX, hE, hr⟩ := id hC
  obtain ⟨iE, iR, iQ, iW, iY, hbd, hbh⟩ := id hI
  refine vq_i (c_X6_defer l hst hC iE iR hwo hW iW x1 x2 x3 x4) (fun r H1 h => ?_) (fun E9 H1 h => ?_)
  · obtain ⟨e1, e2, tg1, t1, tx, hW1, f⟩ := h
    have k : sE (oDefer M x1 x2 x3 x4).2.2 = sE M ∧ sR (oDefer M x1 x2 x3 x4).2.2 = sR M ∧ sT (oDefer M x1 x2 x3 x4).2.2 = sT M ∧ sQ (oDefer M x1 x2 x3 x4).2.2 = sQ M ∧ sY (oDefer M x1 x2 x3 x4).2.2 = sY M := by unfold oDefer; split; exact ⟨rfl, rfl, rfl, rfl, rfl⟩; split <;> exact ⟨rfl, rfl, rfl, rfl, rfl⟩
    obtain ⟨k1, k2, k3, k4, k5⟩ := k
    refine ⟨e1, e2, tg1, ⟨y, zq, zy, wo, ?_, ?_, ?_, hW1, ?_⟩, tx, f.wk (fun t z => by omega)⟩
    · rw [k1, k2, k3]; exact hC.fr t1 tx f (fun t z => by omega)
    · rw [k4]; exact hQ.kept tx f (by omega) (by omega) (by omega) (by omega)
    · rw [k5]; exact hY.kept tx f (by omega) (by omega) (by omega) (by omega)
    · rcases hW1 with ⟨a1, a2⟩ | ⟨a1, _, _, _, _, _, _, a2, _⟩
      · rw [a1, a2]; rfl
      · rw [a1, a2]; rfl
  · exact xp2 h
set_option maxHeartbeats 4000000 in
set_option maxRecDepth 100000 in
theorem u_finish (l : Launch) {D : va_G} {T : Nat → ClassId} {dE mi : Nat} (hst : l.stackTraces = false) {A : Nat → Prop} {H : Heap} {b0 bd : Nat} {tg : Nat → Nat} {M : mSt} (hR : RepT D T dE b0 A tg H M) (hI : Inv bd M) (h8 : bd + 800 ≤ 900000) : vx_Met l yX6_finish wsX6_finish (rmL 13 281 5166) (PcE D T dE mi A H [.ref b0]) (QI A (PO D T dE b0 A tg H (oFinish M))) (XX A (XP H (oFinish M).1 [("java/lang/IllegalStateException", 1)])) 281 5166 A := by
  obtain ⟨y, zq, zy, wo, hC, hQ, hY, hW, hwo⟩ := id hR
  obtain ⟨hT, hX, hE, hr⟩ := id hC
  obtain ⟨iE, iR, iQ, iW, iY, hbd, hbh⟩ := id hI
  refine vq_i (c_X6_finish l hst hC iE iR hwo hW hI h8) (fun r H1 h => ?_) (fun E9 H1 h => ?_)
  · have k : sT (oFinish M).2.2 = sT M ∧ sQ (oFinish M).2.2 = sQ M ∧ sY (oFinish M).2.2 = sY M := by unfold oFinish; split <;> exact ⟨rfl, rfl, rfl⟩
    obtain ⟨k3, k4, k5⟩ := k
    obtain ⟨e1, e2, tg1, y1, hC1, tx, f⟩ := h
    refine ⟨e1, e2, tg1, ⟨y1, zq, zy, none, ?_, ?_, ?_, ?_, ?_⟩, tx, f.wk (fun t z => by unfold CS at z; omega)⟩
    · rw [k3]; exact hC1
    · rw [k4]; exact hQ.kept tx f (by unfold CS; omega) (by unfold CS; omega) (by unfold CS; omega) (by unfold CS; omega)
    · rw [k5]; exact hY.kept tx f (by unfold CS; omega) (by unfold CS; omega) (by unfold CS; omega) (by unfold CS; omega)
    · have k9 : wOn (sW (oFinish M).2.2) = false := by
        unfold oFinish
        split
        · next z => exact z
        · rfl
      exact Or.inl ⟨k9, rfl⟩
    · unfold oFinish
      split
      · next z => rw [show sW (oErr M 1).2.2 = sW M from rfl, z]; rfl
      · rfl
  · exact xp1 h
set_option maxHeartbeats 4000000 in
set_option maxRecDepth 100000 in
theorem u_run (l : Launch) {D : va_G} {T : Nat → ClassId} {dE mi : Nat} (hst : l.stackTraces = false) {A : Nat → Prop} {H : Heap} {b0 bd : Nat} {tg : Nat → Nat} {M : mSt} (hR : RepT D T dE b0 A tg H M) (hI : Inv bd M) : vx_Met l yX6_run wsX6_run (rmL 7 1 6) (PcE D T dE mi A H [.ref b0]) (QI A (PO D T dE b0 A tg H (oRun M))) (XX A (XP H (oRun M).1 [("java/lang/IllegalStateException", 1)])) 1 6 A := by
  obtain ⟨y, zq, zy, wo, hC, hQ, hY, hW, hwo⟩ := id hR
  obtain ⟨hT, hX, hE, hr⟩ := id hC
  obtain ⟨iE, iR, iQ, iW, iY, hbd, hbh⟩ := id hI
  refine vq_i (c_X6_run l hst hC iE iR hwo hY iY) (fun r H1 h => ?_) (fun E9 H1 h => ?_)
  · have k : sR (oRun M).2.2 = sR M ∧ sQ (oRun M).2.2 = sQ M ∧ sY (oRun M).2.2 = sY M ∧ sW (oRun M).2.2 = sW M := by unfold oRun; split <;> exact ⟨rfl, rfl, rfl, rfl⟩
    obtain ⟨k2, k4, k5, k6⟩ := k
    have k3 : sT (oRun M).2.2 = sT M + 1 := by
      have h1 := h.1
      unfold oRun at h1 ⊢
      split at h1
      · cases h1
      · next z => rw [if_neg z]
    obtain ⟨e1, e2, tg1, y1, hC1, tx, f⟩ := h
    refine ⟨e1, e2, tg1, ⟨y1, zq, zy, wo, ?_, ?_, ?_, ?_, ?_⟩, tx, f.wk (fun t z => by unfold CS at z; omega)⟩
    · rw [k3]; rw [k2]; exact hC1
    · rw [k4]; exact hQ.kept tx f (by unfold CS; omega) (by unfold CS; omega) (by unfold CS; omega) (by unfold CS; omega)
    · rw [k5]; exact hY.kept tx f (by unfold CS; omega) (by unfold CS; omega) (by unfold CS; omega) (by unfold CS; omega)
    · rw [k6]; exact hW.kept tx f (by unfold CS; omega) (fun t z => by unfold CS at z; omega)
    · rw [k6]; exact hwo
  · exact xp1 h
