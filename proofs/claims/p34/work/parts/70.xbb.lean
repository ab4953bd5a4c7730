def inS (g : Nat → Nat) : Nat → Nat → Bool
  | 0, _ => false
  | n + 1, k => inS g n k || (g n == k)
theorem inS_iff {g : Nat → Nat} {k : Nat} : ∀ n, inS g n k = true ↔ ∃ p, p < n ∧ g p = k := by
  intro n
  induction n with
  | zero => exact ⟨fun z => (by cases z), fun ⟨p, hp, _⟩ => absurd hp (Nat.not_lt_zero p)⟩
  | succ n ih =>
    show (inS g n k || (g n == k)) = true ↔ _
    rw [Bool.or_eq_true, ih, beq_iff_eq]
    constructor
    · rintro (⟨p, hp, e⟩ | e)
      · exact ⟨p, by omega, e⟩
      · exact ⟨n, Nat.lt_succ_self n, e⟩
    · rintro ⟨p, hp, e⟩
      by_cases c : p = n
      · exact Or.inr (by rw [← c]; exact e)
      · exact Or.inl ⟨p, by omega, e⟩
theorem sumK_same {rd : Nat} {f g : Nat → Int32} : ∀ n, (∀ i, i < n → f i = g i) → sumK rd f n = sumK rd g n := by
  intro n
  induction n with
  | zero => intro _; rfl
  | succ n ih =>
    intro h
    cases c : bitS rd n with
    | true => rw [sumK_t c, sumK_t c, ih (fun i hi => h i (by omega)), h n (Nat.lt_succ_self n)]
    | false => rw [sumK_f c, sumK_f c, ih (fun i hi => h i (by omega))]
theorem PE.work {D : va_G} {T : Nat → ClassId} {b rd wr n sl : Nat} {t : Int32} {g : Nat → Nat} {H H1 : Heap} {E : mE} (h : PE D T b H (sysE E rd wr t (inS g n))) (hsl : g n = sl) (hnew : inS g n sl = false) {fv fm : Nat → Int32} (hf : ∀ i, i < 6 → fv i = mVal (sysE E rd wr t (inS g n)) sl i ∧ fm i = mMk (sysE E rd wr t (inS g n)) sl i)
    (hv : ic (T 0) H1 (ea b sl + 1) 6 (wkV wr (sumK rd fv 6) fv 6)) (hm : ic (T 0) H1 (ea b sl + 2) 6 (wkM wr t fm 6)) (e : ∀ q : Nat, q ≠ ea b sl + 1 → q ≠ ea b sl + 2 → H1[q]? = H[q]?) : PE D T b H1 (sysE E rd wr t (inS g (n + 1))) := by
  intro k hk
  obtain ⟨h1, gv, gm, h2, h3, h4⟩ := h k hk
  by_cases c : k = sl
  · subst c
    have a1 : inS g (n + 1) k = true := by show (inS g n k || (g n == k)) = true; rw [hsl, beq_self_eq_true, Bool.or_true]
    have f1 : ∀ i, i < 6 → fv i = mVal E k i ∧ fm i = mMk E k i := fun i hi => by
      obtain ⟨b1, b2⟩ := hf i hi
      have b1 : fv i = (if inS g n k = true then workV rd wr (mVal E k) else mVal E k) i := b1
      have b2 : fm i = (if inS g n k = true then workM wr t (mMk E k) else mMk E k) i := b2
      rw [hnew, if_neg (by decide)] at b1 b2
      exact ⟨b1, b2⟩
    refine ⟨h1.kept (e _ (by omega) (by omega)), _, _, hv, hm, fun i hi => ?_⟩
    show wkV wr (sumK rd fv 6) fv 6 i = (if inS g (n + 1) k = true then workV rd wr (mVal E k) else mVal E k) i ∧ wkM wr t fm 6 i = (if inS g (n + 1) k = true then workM wr t (mMk E k) else mMk E k) i
    rw [if_pos a1, if_pos a1, sumK_same 6 (fun i hi => (f1 i hi).1)]
    unfold wkV wkM workV workM
    rw [(f1 i hi).1, (f1 i hi).2]
    exact ⟨rfl, rfl⟩
  · have hne : ∀ x y : Nat, x < 3 → y < 3 → ea b k + x ≠ ea b sl + y := fun x y hx3 hy3 => by unfold ea; omega
    have a1 : inS g (n + 1) k = inS g n k := by show (inS g n k || (g n == k)) = _; rw [hsl, beq_eq_false_iff_ne.mpr (Ne.symm c), Bool.or_false]
    refine ⟨h1.kept (e _ (hne 0 1 (by decide) (by decide)) (hne 0 2 (by decide) (by decide))), gv, gm, h2.kept (e _ (hne 1 1 (by decide) (by decide)) (hne 1 2 (by decide) (by decide))), h3.kept (e _ (hne 2 1 (by decide) (by decide)) (hne 2 2 (by decide) (by decide))), fun j hj => ?_⟩
    have h5 := h4 j hj
    show gv j = (if inS g (n + 1) k = true then workV rd wr (mVal E k) else mVal E k) j ∧ gm j = (if inS g (n + 1) k = true then workM wr t (mMk E k) else mMk E k) j
    rw [a1]; exact h5
/-- the question that a system asks -/
def needQ (d : Nat) : mQ := (1, fun _ => d, fun _ => 0, fun _ => 0)
theorem needQ_ans (d n : Nat) : ansQ (needQ d) 0 n = subB n d := by
  show (subB n d && disB n 0 && (0 == 0 || !(disB n 0))) = subB n d
  have : disB n 0 = true := by unfold disB; rw [Nat.and_zero]; rfl
  rw [this]; simp
theorem cnt_all : ∀ n, cnt (fun _ => true) n = n := by
  intro n
  induction n with
  | zero => rfl
  | succ n ih => rw [cnt_t rfl, ih]
theorem need_cnt {E : mE} {R : mR} (iE : InvE E) (iR : InvR E R) (d : Nat) : aN (needQ d) R 0 = cnt (hitB E d) 32 := by
  have h := ans_cnt iE iR (Q := needQ d) 0 (fun _ => true)
  rw [cnt_all] at h
  rw [h]
  exact cnt_same 32 (fun k _ => by rw [needQ_ans]; rfl)
theorem need_all {E : mE} {R : mR} (iE : InvE E) (iR : InvR E R) (d : Nat) : inS (fun p => (aP (needQ d) R 0 p).getD 0) (aN (needQ d) R 0) = hitB E d := by
  funext k
  rw [Bool.eq_iff_iff, inS_iff]
  constructor
  · rintro ⟨p, hp, e⟩
    obtain ⟨k1, e1, a1, a2⟩ := aP_al iR hp
    have e : (aP (needQ d) R 0 p).getD 0 = k := e
    rw [e1] at e
    obtain rfl : k1 = k := e
    rw [needQ_ans] at a2
    show (mAl E k1 && subB (mKd E k1) d) = true
    rw [a1, a2]; rfl
  · intro h
    have h1 := (Bool.and_eq_true _ _).mp h
    obtain ⟨p, hp, he⟩ := aP_sur (Q := needQ d) (q := 0) iR h1.1 (by rw [needQ_ans]; exact h1.2)
    exact ⟨p, hp, by show (aP (needQ d) R 0 p).getD 0 = k; rw [he]; rfl⟩
theorem aP_at {Q : mQ} {R : mR} {q i j : Nat} (hi : i < rN R) (h : ansQ Q q (rS R i) = true) (hj : j < rZ R i) : aTo Q R q i + j < aN Q R q ∧ (aP Q R q (aTo Q R q i + j)).getD 0 = rM R i j := by
  have h1 := aTo_t h
  have h2 := aTo_le2 (Q := Q) (R := R) (q := q) (show i + 1 ≤ rN R by omega)
  refine ⟨by show _ < aTo Q R q (rN R); omega, ?_⟩
  show (aAt Q R q _ (rN R)).getD 0 = _
  rw [aAt_stay (i := i + 1) (by omega) (rN R) (by omega), aAt_hit (by omega) (by omega), Nat.add_sub_cancel_left]; rfl
theorem aP_new {E : mE} {Q : mQ} {R : mR} (iR : InvR E R) {q n : Nat} (hn : n < aN Q R q) : inS (fun p => (aP Q R q p).getD 0) n ((aP Q R q n).getD 0) = false := by
  cases e : inS (fun p => (aP Q R q p).getD 0) n ((aP Q R q n).getD 0) with
  | false => rfl
  | true =>
    obtain ⟨p, hp, h⟩ := (inS_iff n).mp e
    obtain ⟨k1, e1, -, -⟩ := aP_al iR (show p < aN Q R q by omega)
    obtain ⟨k2, e2, -, -⟩ := aP_al iR hn
    have h : (aP Q R q p).getD 0 = (aP Q R q n).getD 0 := h
    have := aP_inj iR (show p < aN Q R q by omega) hn (by rw [e1, e2] at h ⊢; exact congrArg some h)
    omega
theorem hitB_cong {E E1 : mE} (e1 : mAl E1 = mAl E) (e2 : mKd E1 = mKd E) (n : Nat) : hitB E1 n = hitB E n := by funext k; unfold hitB; rw [e1, e2]
theorem run_1 {M : mSt} (h : wOn (sW M) = true) : oRun M = oErr M 1 := if_pos h
theorem run_0 {M : mSt} (h : ¬ wOn (sW M) = true) : oRun M = (0, (runS (sY M) (sT M + 1) (sE M) (stgs (sY M) (sY M).1)).2, ((runS (sY M) (sT M + 1) (sE M) (stgs (sY M) (sY M).1)).1, sR M, sQ M, sW M, sY M, sT M + 1)) := if_neg h
set_option maxRecDepth 100000 in
theorem in_X6_runSystem_RX3 : ∀ w ∈ wsX30, w ∈ wsX6_runSystem := by decide +kernel
set_option maxRecDepth 100000 in
theorem in_X6_runSystem_RX6 : ∀ w ∈ wsX60, w ∈ wsX6_runSystem := by decide +kernel
set_option maxHeartbeats 4000000 in
set_option maxRecDepth 100000 in
theorem c_X6_runSystem (l : Launch) {D : va_G} {T : Nat → ClassId} {dE mi : Nat} (hst : l.stackTraces = false) {A : Nat → Prop} {H : Heap} {b0 : Nat} {tg : Nat → Nat} {wo : Option Nat} {tk : Int32} {E : mE} {R : mR} {y : mLy} (hC : Core D T dE b0 tg H A E R y wo tk) (iE : InvE E) (iR : InvR E R) {sa r1 w1 : Nat} {sg : Int32} (hso : oc D H sa 7 [.int (nI r1), .int (nI w1), .int sg]) (hsg : tg sa = 202) (a1 : r1 < 64) (a2 : w1 < 64) : vx_Met l yX6_runSystem wsX6_runSystem (rmL 4 0 0) (PcE D T dE mi A H [.ref b0, .ref sa]) (QI A (fun r H1 => r = nI (cnt (hitB E (r1 ||| w1)) 32 * cntK w1 6) ∧ PE D T b0 H1 (sysE E r1 w1 tk (hitB E (r1 ||| w1))) ∧ H1.size = H.size ∧ FR tg (fun t => t = 5) H H1)) (XX A (XN)) 0 0 A := by
  refine entry (cc := cX6_runSystem) (maxL := 6) (ret := (some .int)) (by decide) rfl (Nat.le_of_ble_eq_true rfl) ?_
  intro p e s m args below meth c hx hb hrt9 hml hown hts hlk hnt hnm hev hS ls hl
  have hown : s.vm.findClass RX6 = some m.cls := hown
  have hK := hev.1
  have hl : lv_has ls 6 [(0, .ref b0), (1, .ref sa)] := hl
  obtain ⟨hT, hX, hE, hR⟩ := id hC
  refine lv_iconst (v := nI 0) hx hb dX6_runSystem_0 (by decide) ?_
  refine lv_istore_n (lv' := [(2, .int (nI 0)), (0, .ref b0), (1, .ref sa)]) hx hb dX6_runSystem_1 rfl hl (by decide) rfl (fun ls hl => ?_)
  have hl : lv_has ls 6 [(2, .int (nI (((aTo (needQ (r1 ||| w1)) R 0 0) * cntK w1 6)))), (0, .ref b0), (1, .ref sa)] := by
    have e9 : (nI 0) = (nI (((aTo (needQ (r1 ||| w1)) R 0 0) * cntK w1 6))) := by rw [show (aTo (needQ (r1 ||| w1)) R 0 0) = 0 from rfl, Nat.zero_mul]
    rw [← e9]; exact hl
  refine lv_iconst (v := nI 0) hx hb dX6_runSystem_2 (by decide) ?_
  refine lv_istore_n (lv' := [(3, .int (nI 0)), (2, .int (nI (((aTo (needQ (r1 ||| w1)) R 0 0) * cntK w1 6)))), (0, .ref b0), (1, .ref sa)]) hx hb dX6_runSystem_3 rfl hl (by decide) rfl (fun ls hl => ?_)
  have hE0 : PE D T b0 H (sysE E r1 w1 tk (inS (fun p => (aP (needQ (r1 ||| w1)) R 0 p).getD 0) (aTo (needQ (r1 ||| w1)) R 0 0))) := hE
  have loop4 : ∀ (n : Nat) (i : Nat) (Hi_ : Heap) (locsi_ : List Loc), rN R - i < n → (i ≤ rN R) → (PE D T b0 Hi_ (sysE E r1 w1 tk (inS (fun p => (aP (needQ (r1 ||| w1)) R 0 p).getD 0) (aTo (needQ (r1 ||| w1)) R 0 i)))) → (FR tg (fun t => t = 5) H Hi_) → (Hi_.size = H.size) → (va_S A s.heap Hi_ locsi_) → ∀ (ls : Array Slot), lv_has ls 6 [(3, .int (nI i)), (2, .int (nI (((aTo (needQ (r1 ||| w1)) R 0 i) * cntK w1 6)))), (1, .ref sa), (0, .ref b0)] → W p l e (rmL 4 0 0) s m args below meth c Hi_ locsi_ (0) (0) (vx_MQ below (QI A (fun r H1 => r = nI (cnt (hitB E (r1 ||| w1)) 32 * cntK w1 6) ∧ PE D T b0 H1 (sysE E r1 w1 tk (hitB E (r1 ||| w1))) ∧ H1.size = H.size ∧ FR tg (fun t => t = 5) H H1)) (XX A (XN)) args s 0 0 A) (F0 m 4 ls []) := by
    intro n
    induction n with
    | zero => intro i Hi_ locsi_ hfuel; exact absurd hfuel (Nat.not_lt_zero _)
    | succ n ih4 =>
      intro i Hi_ locsi_ hfuel hi hEn hfn hzn hS ls hl
      have hXn := hX.keptF hT hfn (by decide) (by decide)
      have hRn := hR.kept TX.rf hfn (fun t (z : t = 5) => by omega)
      have hson := ocF hso hfn hsg (by decide)
      have hcap9 := hRn.1.1.2.1
      have hcap8 := hRn.1.1.2.2.1
      refine lv_iload_n hx hb dX6_runSystem_4 rfl (lv_at hl 0 rfl) ?_
      refine lv_aload_n hx hb dX6_runSystem_5 rfl (lv_at hl 3 rfl) ?_
      refine x_get (C := RX6) (TT := TX6) (N := 6) (ci := 9) (v := .ref ((b0 + 2))) hx hb hts in_X6_runSystem_RX6 hown hK (hXn.1) rfl 1 (by decide) (hts (.fieldLink RX6 18 "Archeloft" "rowList" "Ljava/util/ArrayList;") (by decide +kernel)) (fun _ h9 => h9) rfl dX6_runSystem_6 ?_
      refine k_ip (k_V (As := []) (rest := [.int (nI i)]) ⟨hx, hb, hml, hown, hts⟩ hev hS (c_Jx4a65c_size_8abf5 l hRn.1.1) (cwV 0 hts gX6_runSystem_Jx4a65c_size_8abf5 rfl rfl rfl (by decide +kernel) ⟨Nat.le_of_ble_eq_true rfl, Nat.le_of_ble_eq_true rfl⟩) (x_recv hK ((hRn.1.1.rec).choose_spec) rfl) rfl hl.1 (Nat.le_of_ble_eq_true rfl) dX6_runSystem_9 (Nat.le_of_ble_eq_true rfl) (Nat.le_of_ble_eq_true rfl)) hS hnt hlk (fun _ _ h _ => h.elim) (Nat.le_of_ble_eq_true rfl) (Nat.le_of_ble_eq_true rfl) (fun rq1_ H1 locs1 hP hz1 hS => ?_)
      refine W.widen (k := 0) (n := 0) (Nat.le_refl _) (Nat.le_refl _) ?_
      obtain ⟨eH, er⟩ := hP
      have eH := eH.symm
      subst eH
      refine x_top (y := (nI ((rN R)))) (er) ?_
      refine y_icmp_ge hx hb (by omega) (by omega) (tgt := 92) dX6_runSystem_12 (by decide) (fun c12 => ?_) (fun c12 => ?_)
      · have ei : i = rN R := by omega
        refine lv_iload_n hx hb dX6_runSystem_92 rfl (lv_at hl 1 rfl) ?_
        exact r_i hx hb hrt9 hlk hS (Nat.le_of_ble_eq_true rfl) (Nat.le_of_ble_eq_true rfl) dX6_runSystem_93 (by rw [ei] at hEn ⊢; exact ⟨by rw [← need_cnt iE iR]; rfl, by rw [← need_all iE iR]; exact hEn, hzn, hfn⟩)
      · have hi2 : i < rN R := by omega
        obtain ⟨hron, hrtn, hrln⟩ := hRn.2 i hi2
        have hsi := iR.1 i hi2
        refine lv_aload_n hx hb dX6_runSystem_15 rfl (lv_at hl 3 rfl) ?_
        refine x_get (C := RX6) (TT := TX6) (N := 6) (ci := 9) (v := .ref ((b0 + 2))) hx hb hts in_X6_runSystem_RX6 hown hK (hXn.1) rfl 1 (by decide) (hts (.fieldLink RX6 18 "Archeloft" "rowList" "Ljava/util/ArrayList;") (by decide +kernel)) (fun _ h9 => h9) rfl dX6_runSystem_16 ?_
        refine lv_iload_n hx hb dX6_runSystem_19 rfl (lv_at hl 0 rfl) ?_
        refine k_qp (k_V (As := [.int (nI i)]) (rest := []) ⟨hx, hb, hml, hown, hts⟩ hev hS (c_Jx4a65c_get_915e3 l hRn.1.1 (i := i) (hi2)) (cwV 1 hts gX6_runSystem_Jx4a65c_get_915e3 rfl rfl rfl (by decide +kernel) ⟨Nat.le_of_ble_eq_true rfl, Nat.le_of_ble_eq_true rfl⟩) (x_recv hK ((hRn.1.1.rec).choose_spec) rfl) rfl hl.1 (Nat.le_of_ble_eq_true rfl) dX6_runSystem_20 (Nat.le_of_ble_eq_true rfl) (Nat.le_of_ble_eq_true rfl)) hS hnt hlk (fun _ _ h _ => h.elim) (Nat.le_of_ble_eq_true rfl) (Nat.le_of_ble_eq_true rfl) (fun rq2_ H2 locs2 hP hz2 hS => ?_)
        refine W.widen (k := 0) (n := 0) (Nat.le_refl _) (Nat.le_refl _) ?_
        obtain ⟨eH, er⟩ := hP
        have eH := eH.symm
        subst eH
        refine x_tov (y := .ref ((yW y i))) (by rw [er]; rfl) ?_
        refine va_castE hx hb hown (hts (.classLink RX6 55 "Archeloft$Row") (by decide +kernel)) (x_recv hK hron rfl) dX6_runSystem_23 ?_
        refine lv_astore (lv' := [(4, .ref ((yW y i))), (3, .int (nI i)), (2, .int (nI (((aTo (needQ (r1 ||| w1)) R 0 i) * cntK w1 6)))), (1, .ref sa), (0, .ref b0)]) hx hb dX6_runSystem_26 hl (by decide) rfl (fun ls hl => ?_)
        refine lv_aload_n hx hb dX6_runSystem_28 rfl (lv_at hl 3 rfl) ?_
        refine lv_aload hx hb dX6_runSystem_29 (lv_at hl 0 rfl) ?_
        refine x_getN (C := RX3) (TT := TX3) (N := 2) (ci := 6) (v := .int (nI ((rS R i)))) hx hb hts in_X6_runSystem_RX3 hown hK (hron) rfl 0 (by decide) (hev.2.2.2.2.1.2 ("Archeloft", 142, "Archeloft$Row", "kindSet", "I") (by decide +kernel)) (fun _ h9 => h9) rfl dX6_runSystem_31 ?_
        refine k_ip (k_V (As := [.int (nI ((rS R i)))]) (rest := []) ⟨hx, hb, hml, hown, hts⟩ hev hS (c_X4_isFor l hson a1 a2 hsi) (cwV 1 hts gX6_runSystem_X4_isFor rfl rfl rfl (by decide +kernel) ⟨Nat.le_of_ble_eq_true rfl, Nat.le_of_ble_eq_true rfl⟩) (x_recv hK hson rfl) rfl hl.1 (Nat.le_of_ble_eq_true rfl) dX6_runSystem_34 (Nat.le_of_ble_eq_true rfl) (Nat.le_of_ble_eq_true rfl)) hS hnt hlk (fun _ _ h _ => h.elim) (Nat.le_of_ble_eq_true rfl) (Nat.le_of_ble_eq_true rfl) (fun rq3_ H3 locs3 hP hz3 hS => ?_)
        refine W.widen (k := 0) (n := 0) (Nat.le_refl _) (Nat.le_refl _) ?_
        obtain ⟨eH, er3⟩ := hP
        have eH := eH.symm
        subst eH
        refine x_top (y := (bI ((ansQ (needQ (r1 ||| w1)) 0 (rS R i))))) (by rw [er3, needQ_ans]) ?_
        refine y_bif_eq hx hb (tgt := 86) dX6_runSystem_37 (by decide) (fun c37 => ?_) (fun c37 => ?_)
        · have hE6 : PE D T b0 Hi_ (sysE E r1 w1 tk (inS (fun p => (aP (needQ (r1 ||| w1)) R 0 p).getD 0) (aTo (needQ (r1 ||| w1)) R 0 (i + 1)))) := by rw [aTo_f c37]; exact hEn
          have hl : lv_has ls 6 [(4, .ref ((yW y i))), (3, .int (nI i)), (2, .int (nI (((aTo (needQ (r1 ||| w1)) R 0 (i + 1)) * cntK w1 6)))), (1, .ref sa), (0, .ref b0)] := by
            have e9 : (nI (((aTo (needQ (r1 ||| w1)) R 0 i) * cntK w1 6))) = (nI (((aTo (needQ (r1 ||| w1)) R 0 (i + 1)) * cntK w1 6))) := by rw [aTo_f c37]
            rw [← e9]; exact hl
          refine lv_iinc (v := (nI (i + 1))) (lv' := [(3, .int (nI (i + 1))), (4, .ref ((yW y i))), (2, .int (nI (((aTo (needQ (r1 ||| w1)) R 0 (i + 1)) * cntK w1 6)))), (1, .ref sa), (0, .ref b0)]) hx hb dX6_runSystem_86 hl (k := 1) rfl (nI_inc _) (by decide) rfl (fun ls hl => ?_)
          refine lv_goto (tgt := 4) hx hb dX6_runSystem_89 (by decide) ?_
          exact ih4 (i + 1) Hi_ locs3 (by omega) (by omega) hE6 hfn hzn hS ls (lv_sub hl [0, 2, 3, 4] rfl)
        · have hto := aTo_t (Q := (needQ (r1 ||| w1))) (R := R) (q := 0) (r := i) c37
          refine lv_iconst (v := nI 0) hx hb dX6_runSystem_40 (by decide) ?_
          refine lv_istore (lv' := [(5, .int (nI 0)), (4, .ref ((yW y i))), (3, .int (nI i)), (2, .int (nI (((aTo (needQ (r1 ||| w1)) R 0 i) * cntK w1 6)))), (1, .ref sa), (0, .ref b0)]) hx hb dX6_runSystem_41 hl (by decide) rfl (fun ls hl => ?_)
          have loop43 : ∀ (n : Nat) (j : Nat) (Hj_ : Heap) (locsj_ : List Loc), rZ R i - j < n → (j ≤ rZ R i) → (PE D T b0 Hj_ (sysE E r1 w1 tk (inS (fun p => (aP (needQ (r1 ||| w1)) R 0 p).getD 0) ((aTo (needQ (r1 ||| w1)) R 0 i) + j)))) → (FR tg (fun t => t = 5) H Hj_) → (Hj_.size = H.size) → (va_S A s.heap Hj_ locsj_) → ∀ (ls : Array Slot), lv_has ls 6 [(5, .int (nI j)), (4, .ref ((yW y i))), (3, .int (nI i)), (2, .int (nI ((((aTo (needQ (r1 ||| w1)) R 0 i) + j) * cntK w1 6)))), (1, .ref sa), (0, .ref b0)] → W p l e (rmL 4 0 0) s m args below meth c Hj_ locsj_ (0) (0) (vx_MQ below (QI A (fun r H1 => r = nI (cnt (hitB E (r1 ||| w1)) 32 * cntK w1 6) ∧ PE D T b0 H1 (sysE E r1 w1 tk (hitB E (r1 ||| w1))) ∧ H1.size = H.size ∧ FR tg (fun t => t = 5) H H1)) (XX A (XN)) args s 0 0 A) (F0 m 43 ls []) := by
            intro n
            induction n with
            | zero => intro j Hj_ locsj_ hfuel; exact absurd hfuel (Nat.not_lt_zero _)
            | succ n ih43 =>
              intro j Hj_ locsj_ hfuel hj hEj hfj hzj hS ls hl
              have hXj := hX.keptF hT hfj (by decide) (by decide)
              have hRj := hR.kept TX.rf hfj (fun t (z : t = 5) => by omega)
              have hsoj := ocF hso hfj hsg (by decide)
              obtain ⟨hroj, hrtj, hrlj⟩ := hRj.2 i hi2
              have hcz := hrlj.1.2.1
              have hcz2 := hrlj.1.2.2.1
              refine lv_iload hx hb dX6_runSystem_43 (lv_at hl 0 rfl) ?_
              refine lv_aload hx hb dX6_runSystem_45 (lv_at hl 1 rfl) ?_
              refine x_getN (C := RX3) (TT := TX3) (N := 2) (ci := 6) (v := .ref ((yL y i))) hx hb hts in_X6_runSystem_RX3 hown hK (hroj) rfl 1 (by decide) (hev.2.2.2.2.1.2 ("Archeloft", 54, "Archeloft$Row", "members", "Ljava/util/ArrayList;") (by decide +kernel)) (fun _ h9 => h9) rfl dX6_runSystem_47 ?_
              refine k_ip (k_V (As := []) (rest := [.int (nI j)]) ⟨hx, hb, hml, hown, hts⟩ hev hS (c_Jx4a65c_size_8abf5 l hrlj.1) (cwV 0 hts gX6_runSystem_Jx4a65c_size_8abf5 rfl rfl rfl (by decide +kernel) ⟨Nat.le_of_ble_eq_true rfl, Nat.le_of_ble_eq_true rfl⟩) (x_recv hK ((hrlj.1.rec).choose_spec) rfl) rfl hl.1 (Nat.le_of_ble_eq_true rfl) dX6_runSystem_50 (Nat.le_of_ble_eq_true rfl) (Nat.le_of_ble_eq_true rfl)) hS hnt hlk (fun _ _ h _ => h.elim) (Nat.le_of_ble_eq_true rfl) (Nat.le_of_ble_eq_true rfl) (fun rq4_ H4 locs4 hP hz4 hS => ?_)
              refine W.widen (k := 0) (n := 0) (Nat.le_refl _) (Nat.le_refl _) ?_
              obtain ⟨eH, er⟩ := hP
              have eH := eH.symm
              subst eH
              refine x_top (y := (nI ((rZ R i)))) (er) ?_
              refine y_icmp_ge hx hb (by omega) (by omega) (tgt := 86) dX6_runSystem_53 (by decide) (fun c53 => ?_) (fun c53 => ?_)
              · have ej : j = rZ R i := by omega
                have hE6 : PE D T b0 Hj_ (sysE E r1 w1 tk (inS (fun p => (aP (needQ (r1 ||| w1)) R 0 p).getD 0) (aTo (needQ (r1 ||| w1)) R 0 (i + 1)))) := by rw [hto, ← ej]; exact hEj
                have hl : lv_has ls 6 [(5, .int (nI j)), (4, .ref ((yW y i))), (3, .int (nI i)), (2, .int (nI (((aTo (needQ (r1 ||| w1)) R 0 (i + 1)) * cntK w1 6)))), (1, .ref sa), (0, .ref b0)] := by
                  have e9 : (nI ((((aTo (needQ (r1 ||| w1)) R 0 i) + j) * cntK w1 6))) = (nI (((aTo (needQ (r1 ||| w1)) R 0 (i + 1)) * cntK w1 6))) := by rw [hto, ej]
                  rw [← e9]; exact hl
                refine lv_iinc (v := (nI (i + 1))) (lv' := [(3, .int (nI (i + 1))), (5, .int (nI j)), (4, .ref ((yW y i))), (2, .int (nI (((aTo (needQ (r1 ||| w1)) R 0 (i + 1)) * cntK w1 6)))), (1, .ref sa), (0, .ref b0)]) hx hb dX6_runSystem_86 hl (k := 2) rfl (nI_inc _) (by decide) rfl (fun ls hl => ?_)
                refine lv_goto (tgt := 4) hx hb dX6_runSystem_89 (by decide) ?_
                exact ih4 (i + 1) Hj_ locs4 (by omega) (by omega) hE6 hfj hzj hS ls (lv_sub hl [0, 3, 4, 5] rfl)
              · have hj2 : j < rZ R i := by omega
                have hm32 : rM R i j < 32 := iE.2.1 _ (iR.2.2.1 i j hi2 hj2).1
                obtain ⟨hnn, hgp⟩ := aP_at hi2 c37 hj2
                have hnew := aP_new iR hnn
                rw [hgp] at hnew
                refine lv_iload_n hx hb dX6_runSystem_56 rfl (lv_at hl 3 rfl) ?_
                refine lv_aload_n hx hb dX6_runSystem_57 rfl (lv_at hl 4 rfl) ?_
                refine lv_aload hx hb dX6_runSystem_58 (lv_at hl 1 rfl) ?_
                refine x_getN (C := RX3) (TT := TX3) (N := 2) (ci := 6) (v := .ref ((yL y i))) hx hb hts in_X6_runSystem_RX3 hown hK (hroj) rfl 1 (by decide) (hev.2.2.2.2.1.2 ("Archeloft", 54, "Archeloft$Row", "members", "Ljava/util/ArrayList;") (by decide +kernel)) (fun _ h9 => h9) rfl dX6_runSystem_60 ?_
                refine lv_iload hx hb dX6_runSystem_63 (lv_at hl 0 rfl) ?_
                refine k_qp (k_V (As := [.int (nI j)]) (rest := [.ref sa, .int (nI ((((aTo (needQ (r1 ||| w1)) R 0 i) + j) * cntK w1 6)))]) ⟨hx, hb, hml, hown, hts⟩ hev hS (c_Jx4a65c_get_915e3 l hrlj.1 (i := j) (hj2)) (cwV 1 hts gX6_runSystem_Jx4a65c_get_915e3 rfl rfl rfl (by decide +kernel) ⟨Nat.le_of_ble_eq_true rfl, Nat.le_of_ble_eq_true rfl⟩) (x_recv hK ((hrlj.1.rec).choose_spec) rfl) rfl hl.1 (Nat.le_of_ble_eq_true rfl) dX6_runSystem_65 (Nat.le_of_ble_eq_true rfl) (Nat.le_of_ble_eq_true rfl)) hS hnt hlk (fun _ _ h _ => h.elim) (Nat.le_of_ble_eq_true rfl) (Nat.le_of_ble_eq_true rfl) (fun rq5_ H5 locs5 hP hz5 hS => ?_)
                refine W.widen (k := 0) (n := 0) (Nat.le_refl _) (Nat.le_refl _) ?_
                obtain ⟨eH, er⟩ := hP
                have eH := eH.symm
                subst eH
                refine x_tov (y := .ref ((ea b0 (rM R i j)))) (by rw [er]; rfl) ?_
                refine va_castE hx hb hown (hts (.classLink RX6 9 "Archeloft$Entity") (by decide +kernel)) (x_recv hK (hEj _ hm32).1 rfl) dX6_runSystem_68 ?_
                have he9 := (hEj _ hm32).1
                obtain ⟨fv, fm, hfv, hfm, hfe⟩ := hEj.vals hm32
                have haa : ea b0 (rM R i j) + 1 ≠ sa ∧ ea b0 (rM R i j) + 2 ≠ sa := ⟨fun z => by have h7 : tg (ea b0 (rM R i j) + 1) = 5 := hT.2.2.2.2 _ (by unfold ea; omega) (by unfold ea; omega); rw [z, hsg] at h7; exact absurd h7 (by decide), fun z => by have h7 : tg (ea b0 (rM R i j) + 2) = 5 := hT.2.2.2.2 _ (by unfold ea; omega) (by unfold ea; omega); rw [z, hsg] at h7; exact absurd h7 (by decide)⟩
                refine lv_aload_n hx hb dX6_runSystem_71 rfl (lv_at hl 5 rfl) ?_
                refine x_get (C := RX6) (TT := TX6) (N := 6) (ci := 9) (v := .int tk) hx hb hts in_X6_runSystem_RX6 hown hK (hXj.1) rfl 5 (by decide) (hts (.fieldLink RX6 32 "Archeloft" "tickOfNow" "I") (by decide +kernel)) (fun _ h9 => h9) rfl dX6_runSystem_72 ?_
                refine k_ip (k_V (As := [.ref ((ea b0 (rM R i j))), .int tk]) (rest := [.int (nI ((((aTo (needQ (r1 ||| w1)) R 0 i) + j) * cntK w1 6)))]) ⟨hx, hb, hml, hown, hts⟩ hev hS (c_X4_workOn l hsoj a1 a2 he9 hfv hfm (by omega) (ea_A hT hm32 (i := 1) (by decide)) (ea_A hT hm32 (i := 2) (by decide)) (by omega) (haa)) (cwV 2 hts gX6_runSystem_X4_workOn rfl rfl rfl (by decide +kernel) ⟨Nat.le_of_ble_eq_true rfl, Nat.le_of_ble_eq_true rfl⟩) (x_recv hK hsoj rfl) rfl hl.1 (Nat.le_of_ble_eq_true rfl) dX6_runSystem_75 (Nat.le_of_ble_eq_true rfl) (Nat.le_of_ble_eq_true rfl)) hS hnt hlk (fun _ _ h _ => h.elim) (Nat.le_of_ble_eq_true rfl) (Nat.le_of_ble_eq_true rfl) (fun rq6_ H6 locs6 hP hz6 hS => ?_)
                refine W.widen (k := 0) (n := 0) (Nat.le_refl _) (Nat.le_refl _) ?_
                obtain ⟨er4, hv4, hm4, hz4, hq4⟩ := hP
                refine x_top (y := (nI ((cntK w1 6)))) (er4) ?_
                have hEn2 : PE D T b0 H6 (sysE E r1 w1 tk (inS (fun p => (aP (needQ (r1 ||| w1)) R 0 p).getD 0) (((aTo (needQ (r1 ||| w1)) R 0 i) + j) + 1))) := hEj.work (sl := rM R i j) hgp hnew hfe hv4 hm4 hq4
                have f4 := FR.vals hT hm32 hz4 hq4
                have hf7 := hfj.tr TX.rf f4
                have hz7 := hz4.trans hzj
                refine y_iadd hx hb dX6_runSystem_78 ?_
                refine lv_istore_n (lv' := [(2, .int (nI ((((aTo (needQ (r1 ||| w1)) R 0 i) + j) * cntK w1 6) + (cntK w1 6)))), (5, .int (nI j)), (4, .ref ((yW y i))), (3, .int (nI i)), (1, .ref sa), (0, .ref b0)]) hx hb dX6_runSystem_79 rfl hl (by decide) rfl (fun ls hl => ?_)
                have hl : lv_has ls 6 [(2, .int (nI ((((aTo (needQ (r1 ||| w1)) R 0 i) + (j + 1)) * cntK w1 6)))), (5, .int (nI j)), (4, .ref ((yW y i))), (3, .int (nI i)), (1, .ref sa), (0, .ref b0)] := by
                  have e9 : (nI ((((aTo (needQ (r1 ||| w1)) R 0 i) + j) * cntK w1 6) + (cntK w1 6))) = (nI ((((aTo (needQ (r1 ||| w1)) R 0 i) + (j + 1)) * cntK w1 6))) := by rw [← Nat.add_assoc, Nat.succ_mul]
                  rw [← e9]; exact hl
                refine lv_iinc (v := (nI (j + 1))) (lv' := [(5, .int (nI (j + 1))), (2, .int (nI ((((aTo (needQ (r1 ||| w1)) R 0 i) + (j + 1)) * cntK w1 6)))), (4, .ref ((yW y i))), (3, .int (nI i)), (1, .ref sa), (0, .ref b0)]) hx hb dX6_runSystem_80 hl (k := 1) rfl (nI_inc _) (by decide) rfl (fun ls hl => ?_)
                refine lv_goto (tgt := 43) hx hb dX6_runSystem_83 (by decide) ?_
                exact ih43 (j + 1) H6 locs6 (by omega) (by omega) hEn2 hf7 hz7 hS ls (lv_sub hl [0, 2, 3, 1, 4, 5] rfl)
          exact loop43 ((rZ R i - 0) + 1) 0 Hi_ locs3 (Nat.lt_succ_self _) (Nat.zero_le _) hEn hfn hzn hS ls (lv_sub hl [0, 1, 2, 3, 4, 5] rfl)
  exact loop4 ((rN R - 0) + 1) 0 H [] (Nat.lt_succ_self _) (Nat.zero_le _) hE0 FR.rf rfl hS ls (lv_sub hl [0, 1, 3, 2] rfl)
set_option maxRecDepth 100000 in
theorem in_X6_runStage_RX4 : ∀ w ∈ wsX40, w ∈ wsX6_runStage := by decide +kernel
set_option maxRecDepth 100000 in
theorem in_X6_runStage_RX6 : ∀ w ∈ wsX60, w ∈ wsX6_runStage := by decide +kernel
set_option maxHeartbeats 4000000 in
set_option maxRecDepth 100000 in
theorem c_X6_runStage (l : Launch) {D : va_G} {T : Nat → ClassId} {dE mi : Nat} (hst : l.stackTraces = false) {A : Nat → Prop} {H : Heap} {b0 : Nat} {tg : Nat → Nat} {wo : Option Nat} {tk : Int32} {E : mE} {R : mR} {y : mLy} (hC : Core D T dE b0 tg H A E R y wo tk) (iE : InvE E) (iR : InvR E R) {Y9 : mQ} {zy : mLz} (hY : RepY D T dE b0 tg H Y9 zy) (iY : InvY Y9) {sg0 : Nat} (hsg0 : sg0 < 64) : vx_Met l yX6_runStage wsX6_runStage (rmL 5 0 0) (PcE D T dE mi A H [.ref b0, .int (nI sg0)]) (QI A (fun r H1 => r = (runK Y9 tk sg0 E Y9.1).2 ∧ PE D T b0 H1 (runK Y9 tk sg0 E Y9.1).1 ∧ H1.size = H.size ∧ FR tg (fun t => t = 5) H H1)) (XX A (XN)) 0 0 A := by
  refine entry (cc := cX6_runStage) (maxL := 5) (ret := (some .int)) (by decide) rfl (Nat.le_of_ble_eq_true rfl) ?_
  intro p e s m args below meth c hx hb hrt9 hml hown hts hlk hnt hnm hev hS ls hl
  have hown : s.vm.findClass RX6 = some m.cls := hown
  have hK := hev.1
  have hl : lv_has ls 5 [(0, .ref b0), (1, .int (nI sg0))] := hl
  obtain ⟨hT, hX, hE, hR⟩ := id hC
  refine lv_iconst (v := nI 0) hx hb dX6_runStage_0 (by decide) ?_
  refine lv_istore_n (lv' := [(2, .int (nI 0)), (0, .ref b0), (1, .int (nI sg0))]) hx hb dX6_runStage_1 rfl hl (by decide) rfl (fun ls hl => ?_)
  have hl : lv_has ls 5 [(2, .int ((runK Y9 tk sg0 E 0).2)), (0, .ref b0), (1, .int (nI sg0))] := by
    have e9 : (nI 0) = ((runK Y9 tk sg0 E 0).2) := rfl
    rw [← e9]; exact hl
  refine lv_iconst (v := nI 0) hx hb dX6_runStage_2 (by decide) ?_
  refine lv_istore_n (lv' := [(3, .int (nI 0)), (2, .int ((runK Y9 tk sg0 E 0).2)), (0, .ref b0), (1, .int (nI sg0))]) hx hb dX6_runStage_3 rfl hl (by decide) rfl (fun ls hl => ?_)
  have loop4 : ∀ (n : Nat) (i : Nat) (Hi_ : Heap) (locsi_ : List Loc), Y9.1 - i < n → (i ≤ Y9.1) → (PE D T b0 Hi_ (runK Y9 tk sg0 E i).1) → (FR tg (fun t => t = 5) H Hi_) → (Hi_.size = H.size) → (va_S A s.heap Hi_ locsi_) → ∀ (ls : Array Slot), lv_has ls 5 [(3, .int (nI i)), (2, .int ((runK Y9 tk sg0 E i).2)), (1, .int (nI sg0)), (0, .ref b0)] → W p l e (rmL 5 0 0) s m args below meth c Hi_ locsi_ (0) (0) (vx_MQ below (QI A (fun r H1 => r = (runK Y9 tk sg0 E Y9.1).2 ∧ PE D T b0 H1 (runK Y9 tk sg0 E Y9.1).1 ∧ H1.size = H.size ∧ FR tg (fun t => t = 5) H H1)) (XX A (XN)) args s 0 0 A) (F0 m 4 ls []) := by
    intro n
    induction n with
    | zero => intro i Hi_ locsi_ hfuel; exact absurd hfuel (Nat.not_lt_zero _)
    | succ n ih4 =>
      intro i Hi_ locsi_ hfuel hi hEn hfn hzn hS ls hl
      have hTn := hT.kept hfn.1
      have hXn := hX.keptF hT hfn (by decide) (by decide)
      have hRn := hR.kept TX.rf hfn (fun t (z : t = 5) => by omega)
      have hYn := hY.kept TX.rf hfn (by decide) (by decide) (by decide) (by decide)
      have iEn := InvE.cong (E1 := (runK Y9 tk sg0 E i).1) iE (runK_al i).1 (runK_al i).2.2.1 (runK_al i).2.2.2
      have iRn := InvR.cong (E1 := (runK Y9 tk sg0 E i).1) iR (runK_al i).1 (runK_al i).2.2.1
      have hcap9 := hYn.1.1.2.1
      have hcap8 := hYn.1.1.2.2.1
      refine lv_iload_n hx hb dX6_runStage_4 rfl (lv_at hl 0 rfl) ?_
      refine lv_aload_n hx hb dX6_runStage_5 rfl (lv_at hl 3 rfl) ?_
      refine x_get (C := RX6) (TT := TX6) (N := 6) (ci := 9) (v := .ref ((b0 + 4))) hx hb hts in_X6_runStage_RX6 hown hK (hXn.1) rfl 3 (by decide) (hts (.fieldLink RX6 25 "Archeloft" "systemList" "Ljava/util/ArrayList;") (by decide +kernel)) (fun _ h9 => h9) rfl dX6_runStage_6 ?_
      refine k_ip (k_V (As := []) (rest := [.int (nI i)]) ⟨hx, hb, hml, hown, hts⟩ hev hS (c_Jx4a65c_size_8abf5 l hYn.1.1) (cwV 0 hts gX6_runStage_Jx4a65c_size_8abf5 rfl rfl rfl (by decide +kernel) ⟨Nat.le_of_ble_eq_true rfl, Nat.le_of_ble_eq_true rfl⟩) (x_recv hK ((hYn.1.1.rec).choose_spec) rfl) rfl hl.1 (Nat.le_of_ble_eq_true rfl) dX6_runStage_9 (Nat.le_of_ble_eq_true rfl) (Nat.le_of_ble_eq_true rfl)) hS hnt hlk (fun _ _ h _ => h.elim) (Nat.le_of_ble_eq_true rfl) (Nat.le_of_ble_eq_true rfl) (fun rq1_ H1 locs1 hP hz1 hS => ?_)
      refine W.widen (k := 0) (n := 0) (Nat.le_refl _) (Nat.le_refl _) ?_
      obtain ⟨eH, er⟩ := hP
      have eH := eH.symm
      subst eH
      refine x_top (y := (nI Y9.1)) (er) ?_
      refine y_icmp_ge hx hb (by omega) (by omega) (tgt := 52) dX6_runStage_12 (by decide) (fun c12 => ?_) (fun c12 => ?_)
      · have ei : i = Y9.1 := by omega
        refine lv_iload_n hx hb dX6_runStage_52 rfl (lv_at hl 1 rfl) ?_
        exact r_i hx hb hrt9 hlk hS (Nat.le_of_ble_eq_true rfl) (Nat.le_of_ble_eq_true rfl) dX6_runStage_53 (by rw [ei] at hEn ⊢; exact ⟨rfl, hEn, hzn, hfn⟩)
      · have hi2 : i < Y9.1 := by omega
        obtain ⟨hyon, hytn⟩ := hYn.2 i hi2
        obtain ⟨yb1, yb2, yb3⟩ := iY.2 i hi2
        have hy8 := iY.1
        refine lv_aload_n hx hb dX6_runStage_15 rfl (lv_at hl 3 rfl) ?_
        refine x_get (C := RX6) (TT := TX6) (N := 6) (ci := 9) (v := .ref ((b0 + 4))) hx hb hts in_X6_runStage_RX6 hown hK (hXn.1) rfl 3 (by decide) (hts (.fieldLink RX6 25 "Archeloft" "systemList" "Ljava/util/ArrayList;") (by decide +kernel)) (fun _ h9 => h9) rfl dX6_runStage_16 ?_
        refine lv_iload_n hx hb dX6_runStage_19 rfl (lv_at hl 0 rfl) ?_
        refine k_qp (k_V (As := [.int (nI i)]) (rest := []) ⟨hx, hb, hml, hown, hts⟩ hev hS (c_Jx4a65c_get_915e3 l hYn.1.1 (i := i) (hi2)) (cwV 1 hts gX6_runStage_Jx4a65c_get_915e3 rfl rfl rfl (by decide +kernel) ⟨Nat.le_of_ble_eq_true rfl, Nat.le_of_ble_eq_true rfl⟩) (x_recv hK ((hYn.1.1.rec).choose_spec) rfl) rfl hl.1 (Nat.le_of_ble_eq_true rfl) dX6_runStage_20 (Nat.le_of_ble_eq_true rfl) (Nat.le_of_ble_eq_true rfl)) hS hnt hlk (fun _ _ h _ => h.elim) (Nat.le_of_ble_eq_true rfl) (Nat.le_of_ble_eq_true rfl) (fun rq2_ H2 locs2 hP hz2 hS => ?_)
        refine W.widen (k := 0) (n := 0) (Nat.le_refl _) (Nat.le_refl _) ?_
        obtain ⟨eH, er⟩ := hP
        have eH := eH.symm
        subst eH
        refine x_tov (y := .ref ((zy.2.2 i))) (by rw [er]; rfl) ?_
        refine va_castE hx hb hown (hts (.classLink RX6 210 "Archeloft$StagedSystem") (by decide +kernel)) (x_recv hK hyon rfl) dX6_runStage_23 ?_
        refine lv_astore (lv' := [(4, .ref ((zy.2.2 i))), (3, .int (nI i)), (2, .int ((runK Y9 tk sg0 E i).2)), (1, .int (nI sg0)), (0, .ref b0)]) hx hb dX6_runStage_26 hl (by decide) rfl (fun ls hl => ?_)
        refine lv_aload hx hb dX6_runStage_28 (lv_at hl 0 rfl) ?_
        refine x_getN (C := RX4) (TT := TX4) (N := 3) (ci := 7) (v := .int (nI ((Y9.2.2.2 i)))) hx hb hts in_X6_runStage_RX4 hown hK (hyon) rfl 2 (by decide) (hev.2.2.2.2.1.2 ("Archeloft", 218, "Archeloft$StagedSystem", "stage", "I") (by decide +kernel)) (fun _ h9 => h9) rfl dX6_runStage_30 ?_
        refine lv_iload_n hx hb dX6_runStage_33 rfl (lv_at hl 3 rfl) ?_
        refine y_icmp_ne hx hb (by omega) (by omega) (tgt := 46) dX6_runStage_34 (by decide) (fun c34 => ?_) (fun c34 => ?_)
        · have hE6 : PE D T b0 Hi_ (runK Y9 tk sg0 E (i + 1)).1 := by rw [runK_f c34]; exact hEn
          have hl : lv_has ls 5 [(4, .ref ((zy.2.2 i))), (3, .int (nI i)), (2, .int ((runK Y9 tk sg0 E (i + 1)).2)), (1, .int (nI sg0)), (0, .ref b0)] := by
            have e9 : ((runK Y9 tk sg0 E i).2) = ((runK Y9 tk sg0 E (i + 1)).2) := by rw [runK_f c34]
            rw [← e9]; exact hl
          refine lv_iinc (v := (nI (i + 1))) (lv' := [(3, .int (nI (i + 1))), (4, .ref ((zy.2.2 i))), (2, .int ((runK Y9 tk sg0 E (i + 1)).2)), (1, .int (nI sg0)), (0, .ref b0)]) hx hb dX6_runStage_46 hl (k := 1) rfl (nI_inc _) (by decide) rfl (fun ls hl => ?_)
          refine lv_goto (tgt := 4) hx hb dX6_runStage_49 (by decide) ?_
          exact ih4 (i + 1) Hi_ locs2 (by omega) (by omega) hE6 hfn hzn hS ls (lv_sub hl [0, 2, 3, 4] rfl)
        · refine lv_iload_n hx hb dX6_runStage_37 rfl (lv_at hl 2 rfl) ?_
          refine lv_aload_n hx hb dX6_runStage_38 rfl (lv_at hl 4 rfl) ?_
          refine lv_aload hx hb dX6_runStage_39 (lv_at hl 0 rfl) ?_
          refine k_ip (k_V (As := [.ref ((zy.2.2 i))]) (rest := [.int ((runK Y9 tk sg0 E i).2)]) ⟨hx, hb, hml, hown, hts⟩ hev hS (c_X6_runSystem l hst (E := (runK Y9 tk sg0 E i).1) ⟨hTn, hXn, hEn, hRn⟩ iEn iRn hyon hytn yb1 yb2) (cwV 1 hts gX6_runStage_X6_runSystem rfl rfl rfl (by decide +kernel) ⟨Nat.le_of_ble_eq_true rfl, Nat.le_of_ble_eq_true rfl⟩) (x_recv hK hXn.1 rfl) rfl hl.1 (Nat.le_of_ble_eq_true rfl) dX6_runStage_41 (Nat.le_of_ble_eq_true rfl) (Nat.le_of_ble_eq_true rfl)) hS hnt hlk (fun _ _ h _ => h.elim) (Nat.le_of_ble_eq_true rfl) (Nat.le_of_ble_eq_true rfl) (fun rq3_ H3 locs3 hP hz3 hS => ?_)
          refine W.widen (k := 0) (n := 0) (Nat.le_refl _) (Nat.le_refl _) ?_
          obtain ⟨er4, hE4, hz4, f4⟩ := hP
          refine x_top (y := ((nI (cnt (hitB E (Y9.2.1 i ||| Y9.2.2.1 i)) 32 * cntK (Y9.2.2.1 i) 6)))) (by rw [er4, hitB_cong (runK_al i).1 (runK_al i).2.2.1]) ?_
          have hE6 : PE D T b0 H3 (runK Y9 tk sg0 E (i + 1)).1 := by rw [runK_t c34, ← hitB_cong (E := E) (runK_al i).1 (runK_al i).2.2.1]; exact hE4
          have hf7 := hfn.tr TX.rf f4
          have hz7 := hz4.trans hzn
          refine lv_iadd hx hb dX6_runStage_44 ?_
          refine lv_istore_n (lv' := [(2, .int (((runK Y9 tk sg0 E i).2) + ((nI (cnt (hitB E (Y9.2.1 i ||| Y9.2.2.1 i)) 32 * cntK (Y9.2.2.1 i) 6))))), (4, .ref ((zy.2.2 i))), (3, .int (nI i)), (1, .int (nI sg0)), (0, .ref b0)]) hx hb dX6_runStage_45 rfl hl (by decide) rfl (fun ls hl => ?_)
          have hl : lv_has ls 5 [(2, .int ((runK Y9 tk sg0 E (i + 1)).2)), (4, .ref ((zy.2.2 i))), (3, .int (nI i)), (1, .int (nI sg0)), (0, .ref b0)] := by
            have e9 : (((runK Y9 tk sg0 E i).2) + ((nI (cnt (hitB E (Y9.2.1 i ||| Y9.2.2.1 i)) 32 * cntK (Y9.2.2.1 i) 6)))) = ((runK Y9 tk sg0 E (i + 1)).2) := by rw [runK_t c34]
            rw [← e9]; exact hl
          refine lv_iinc (v := (nI (i + 1))) (lv' := [(3, .int (nI (i + 1))), (2, .int ((runK Y9 tk sg0 E (i + 1)).2)), (4, .ref ((zy.2.2 i))), (1, .int (nI sg0)), (0, .ref b0)]) hx hb dX6_runStage_46 hl (k := 2) rfl (nI_inc _) (by decide) rfl (fun ls hl => ?_)
          refine lv_goto (tgt := 4) hx hb dX6_runStage_49 (by decide) ?_
          exact ih4 (i + 1) H3 locs3 (by omega) (by omega) hE6 hf7 hz7 hS ls (lv_sub hl [0, 1, 3, 4] rfl)
  exact loop4 ((Y9.1 - 0) + 1) 0 H [] (Nat.lt_succ_self _) (Nat.zero_le _) hE FR.rf rfl hS ls (lv_sub hl [0, 1, 3, 2] rfl)
set_option maxRecDepth 100000 in
theorem in_X6_run_RX6 : ∀ w ∈ wsX60, w ∈ wsX6_run := by decide +kernel
set_option maxHeartbeats 4000000 in
set_option maxRecDepth 100000 in
theorem c_X6_run (l : Launch) {D : va_G} {T : Nat → ClassId} {dE mi : Nat} (hst : l.stackTraces = false) {A : Nat → Prop} {H : Heap} {b0 : Nat} {tg : Nat → Nat} {wo : Option Nat} {M : mSt} {y : mLy} (hC : Core D T dE b0 tg H A (sE M) (sR M) y wo (sT M)) (iE : InvE (sE M)) (iR : InvR (sE M) (sR M)) (hwo : wOn (sW M) = wo.isSome) {zy : mLz} (hY : RepY D T dE b0 tg H (sY M) zy) (iY : InvY (sY M)) : vx_Met l yX6_run wsX6_run (rmL 7 1 6) (PcE D T dE mi A H [.ref b0]) (QI A (fun r H1 => (oRun M).1 = 0 ∧ r = (oRun M).2.1 ∧ Nx1 D T dE b0 A tg H H1 (sE (oRun M).2.2) (sR M) wo (sT M + 1))) (XX A (XE H (fun E9 => E9 = "java/lang/IllegalStateException" ∧ (oRun M).1 = 1))) 1 6 A := by
  refine entry (cc := cX6_run) (maxL := 4) (ret := (some .int)) (by decide) rfl (Nat.le_of_ble_eq_true rfl) ?_
  intro p e s m args below meth c hx hb hrt9 hml hown hts hlk hnt hnm hev hS ls hl
  have hown : s.vm.findClass RX6 = some m.cls := hown
  have hK := hev.1
  have hl : lv_has ls 4 [(0, .ref b0)] := hl
  obtain ⟨hT, hX, hE, hR⟩ := id hC
  refine lv_aload_n hx hb dX6_run_0 rfl (lv_at hl 0 rfl) ?_
  refine k_vp (k_V (As := []) (rest := []) ⟨hx, hb, hml, hown, hts⟩ hev hS (c_X6_refuseDuringWalk l hst hX.1) (cwV 0 hts gX6_run_X6_refuseDuringWalk rfl rfl rfl (by decide +kernel) ⟨Nat.le_of_ble_eq_true rfl, Nat.le_of_ble_eq_true rfl⟩) (x_recv hK hX.1 rfl) rfl hl.1 (Nat.le_of_ble_eq_true rfl) dX6_run_1 (Nat.le_of_ble_eq_true rfl) (Nat.le_of_ble_eq_true rfl)) hS hnt hlk (fun E9 H9 h9 z9 => ⟨⟨h9.1.1, by rw [run_1 (wo_s hwo h9.1.2)]; rfl⟩, h9.2⟩) (Nat.le_of_ble_eq_true rfl) (Nat.le_of_ble_eq_true rfl) (fun H1 locs1 hP hz1 hS => ?_)
  obtain ⟨eH, hwn⟩ := hP
  have eH := eH.symm
  subst eH
  refine lv_aload_n hx hb dX6_run_4 rfl (lv_at hl 0 rfl) ?_
  refine lv_dup hx hb dX6_run_5 rfl ?_
  refine x_get (C := RX6) (TT := TX6) (N := 6) (ci := 9) (v := .int ((sT M))) hx hb hts in_X6_run_RX6 hown hK (hX.1) rfl 5 (by decide) (hts (.fieldLink RX6 32 "Archeloft" "tickOfNow" "I") (by decide +kernel)) (fun _ h9 => h9) rfl dX6_run_6 ?_
  refine lv_iconst (v := nI 1) hx hb dX6_run_9 (by decide) ?_
  refine lv_iadd hx hb dX6_run_10 ?_
  refine x_top (y := ((sT M + 1))) (rfl) ?_
  refine x_put (C := RX6) (TT := TX6) (N := 6) (ci := 9) (v := .int ((sT M + 1))) (ty := tyX6 5) hx hb hts in_X6_run_RX6 tyX6 tyX6_ok nmX6 hown hK hS (hX.1) (hT.a hT.2.2.1 (by decide)) rfl 5 (by decide) (hts (.fieldLink RX6 32 "Archeloft" "tickOfNow" "I") (by decide +kernel)) (fun _ h9 => h9) rfl (tyX6_ok 5 (by decide)) rfl rfl (Nat.le_of_ble_eq_true rfl) dX6_run_11 (fun H2 locs2 ho2 hz2 hq2 hS => ?_)
  have ho2 : oc D H2 b0 9 [.ref ((b0 + 1)), .ref ((b0 + 2)), .ref ((b0 + 3)), .ref ((b0 + 4)), va_rf wo, .int ((sT M + 1))] := ho2
  have hX1 : PX D T b0 H2 wo (sT M + 1) := hX.put ho2 hq2
  have f1 := FR.b0 hT hz2 hq2
  have hT1 := hT.kept f1.1
  have hE1 := hE.keptF hT f1 (by decide)
  have hR1 := hR.kept TX.rf f1 (fun t (z : t = 1) => by omega)
  have hY1 := hY.kept TX.rf f1 (by decide) (by decide) (by decide) (by decide)
  refine lv_aload_n hx hb dX6_run_14 rfl (lv_at hl 0 rfl) ?_
  refine k_ip (k_V (As := []) (rest := []) ⟨hx, hb, hml, hown, hts⟩ hev hS (c_X6_stages l hst hX1 hY1 iY) (cwV 0 hts gX6_run_X6_stages rfl rfl rfl (by decide +kernel) ⟨Nat.le_of_ble_eq_true rfl, Nat.le_of_ble_eq_true rfl⟩) (x_recv hK hX1.1 rfl) rfl hl.1 (Nat.le_of_ble_eq_true rfl) dX6_run_15 (Nat.le_of_ble_eq_true rfl) (Nat.le_of_ble_eq_true rfl)) hS hnt hlk (fun _ _ h _ => h.elim) (Nat.le_of_ble_eq_true rfl) (Nat.le_of_ble_eq_true rfl) (fun rq3_ H3 locs3 hP hz3 hS => ?_)
  refine W.widen (k := 0 + 1) (n := 0 + 6) (Nat.le_refl _) (Nat.le_refl _) ?_
  obtain ⟨eH, er3⟩ := hP
  have eH := eH.symm
  subst eH
  refine x_top (y := (nI ((stgs (sY M) (sY M).1)))) (er3) ?_
  refine lv_istore_n (lv' := [(1, .int (nI ((stgs (sY M) (sY M).1)))), (0, .ref b0)]) hx hb dX6_run_18 rfl hl (by decide) rfl (fun ls hl => ?_)
  refine lv_iconst (v := nI 0) hx hb dX6_run_19 (by decide) ?_
  refine lv_istore_n (lv' := [(2, .int (nI 0)), (1, .int (nI ((stgs (sY M) (sY M).1)))), (0, .ref b0)]) hx hb dX6_run_20 rfl hl (by decide) rfl (fun ls hl => ?_)
  have hs8 := stgs_le iY (sY M).1 (Nat.le_refl _)
  have hy8 := iY.1
  have hl : lv_has ls 4 [(2, .int ((runS (sY M) (sT M + 1) (sE M) 0).2)), (1, .int (nI ((stgs (sY M) (sY M).1)))), (0, .ref b0)] := by
    have e9 : (nI 0) = ((runS (sY M) (sT M + 1) (sE M) 0).2) := rfl
    rw [← e9]; exact hl
  refine lv_iconst (v := nI 0) hx hb dX6_run_21 (by decide) ?_
  refine lv_istore_n (lv' := [(3, .int (nI 0)), (2, .int ((runS (sY M) (sT M + 1) (sE M) 0).2)), (1, .int (nI ((stgs (sY M) (sY M).1)))), (0, .ref b0)]) hx hb dX6_run_22 rfl hl (by decide) rfl (fun ls hl => ?_)
  have loop23 : ∀ (n : Nat) (i : Nat) (Hi_ : Heap) (locsi_ : List Loc), (stgs (sY M) (sY M).1) - i < n → (i ≤ (stgs (sY M) (sY M).1)) → (PE D T b0 Hi_ (runS (sY M) (sT M + 1) (sE M) i).1) → (TG A b0 Hi_ tg) → (PX D T b0 Hi_ wo (sT M + 1)) → (RepR D T dE b0 tg Hi_ (sR M) y) → (RepY D T dE b0 tg Hi_ (sY M) zy) → (FR tg (fun t => t = 1 ∨ CS t) H Hi_) → (va_S A s.heap Hi_ locsi_) → ∀ (ls : Array Slot), lv_has ls 4 [(3, .int (nI i)), (2, .int ((runS (sY M) (sT M + 1) (sE M) i).2)), (1, .int (nI ((stgs (sY M) (sY M).1)))), (0, .ref b0)] → W p l e (rmL 7 1 6) s m args below meth c Hi_ locsi_ (0 + 1) (0 + 6) (vx_MQ below (QI A (fun r H1 => (oRun M).1 = 0 ∧ r = (oRun M).2.1 ∧ Nx1 D T dE b0 A tg H H1 (sE (oRun M).2.2) (sR M) wo (sT M + 1))) (XX A (XE H (fun E9 => E9 = "java/lang/IllegalStateException" ∧ (oRun M).1 = 1))) args s 1 6 A) (F0 m 23 ls []) := by
    intro n
    induction n with
    | zero => intro i Hi_ locsi_ hfuel; exact absurd hfuel (Nat.not_lt_zero _)
    | succ n ih23 =>
      intro i Hi_ locsi_ hfuel hi hEn hTn hXn hRn hYn hfn hS ls hl
      have iEn := InvE.cong (E1 := (runS (sY M) (sT M + 1) (sE M) i).1) iE (runS_al i).1 (runS_al i).2.2.1 (runS_al i).2.2.2
      have iRn := InvR.cong (E1 := (runS (sY M) (sT M + 1) (sE M) i).1) iR (runS_al i).1 (runS_al i).2.2.1
      refine lv_iload_n hx hb dX6_run_23 rfl (lv_at hl 0 rfl) ?_
      refine lv_iload_n hx hb dX6_run_24 rfl (lv_at hl 2 rfl) ?_
      refine y_icmp_ge hx hb (by omega) (by omega) (tgt := 42) dX6_run_25 (by decide) (fun c25 => ?_) (fun c25 => ?_)
      · have ei : i = (stgs (sY M) (sY M).1) := by omega
        refine lv_iload_n hx hb dX6_run_42 rfl (lv_at hl 1 rfl) ?_
        exact r_i hx hb hrt9 hlk hS (Nat.le_of_ble_eq_true rfl) (Nat.le_of_ble_eq_true rfl) dX6_run_43 (by
            rw [run_0 (wo_n hwo hwn)]
            rw [ei] at hEn ⊢
            exact ⟨rfl, rfl, tg, y, ⟨hTn, hXn, hEn, hRn⟩, TX.rf, hfn⟩)
      · refine lv_iload_n hx hb dX6_run_28 rfl (lv_at hl 1 rfl) ?_
        refine lv_aload_n hx hb dX6_run_29 rfl (lv_at hl 3 rfl) ?_
        refine lv_iload_n hx hb dX6_run_30 rfl (lv_at hl 0 rfl) ?_
        refine k_ip (k_V (As := [.int (nI i)]) (rest := [.int ((runS (sY M) (sT M + 1) (sE M) i).2)]) ⟨hx, hb, hml, hown, hts⟩ hev hS (c_X6_runStage l hst (E := (runS (sY M) (sT M + 1) (sE M) i).1) ⟨hTn, hXn, hEn, hRn⟩ iEn iRn hYn iY (sg0 := i) (by omega)) (cwV 1 hts gX6_run_X6_runStage rfl rfl rfl (by decide +kernel) ⟨Nat.le_of_ble_eq_true rfl, Nat.le_of_ble_eq_true rfl⟩) (x_recv hK hXn.1 rfl) rfl hl.1 (Nat.le_of_ble_eq_true rfl) dX6_run_31 (Nat.le_of_ble_eq_true rfl) (Nat.le_of_ble_eq_true rfl)) hS hnt hlk (fun _ _ h _ => h.elim) (Nat.le_of_ble_eq_true rfl) (Nat.le_of_ble_eq_true rfl) (fun rq4_ H4 locs4 hP hz4 hS => ?_)
        refine W.widen (k := 0 + 1) (n := 0 + 6) (Nat.le_refl _) (Nat.le_refl _) ?_
        obtain ⟨er4, hE4, hz4, f4⟩ := hP
        refine x_top (y := ((runK (sY M) (sT M + 1) i (runS (sY M) (sT M + 1) (sE M) i).1 (sY M).1).2)) (er4) ?_
        have hf7 := hfn.tr TX.rf (f4.wk (fun t z => Or.inr (Or.inl z)))
        refine lv_iadd hx hb dX6_run_34 ?_
        refine lv_istore_n (lv' := [(2, .int (((runS (sY M) (sT M + 1) (sE M) i).2) + ((runK (sY M) (sT M + 1) i (runS (sY M) (sT M + 1) (sE M) i).1 (sY M).1).2))), (3, .int (nI i)), (1, .int (nI ((stgs (sY M) (sY M).1)))), (0, .ref b0)]) hx hb dX6_run_35 rfl hl (by decide) rfl (fun ls hl => ?_)
        have hl : lv_has ls 4 [(2, .int ((runS (sY M) (sT M + 1) (sE M) (i + 1)).2)), (3, .int (nI i)), (1, .int (nI ((stgs (sY M) (sY M).1)))), (0, .ref b0)] := by
          have e9 : (((runS (sY M) (sT M + 1) (sE M) i).2) + ((runK (sY M) (sT M + 1) i (runS (sY M) (sT M + 1) (sE M) i).1 (sY M).1).2)) = ((runS (sY M) (sT M + 1) (sE M) (i + 1)).2) := rfl
          rw [← e9]; exact hl
        refine lv_iinc (v := (nI (i + 1))) (lv' := [(3, .int (nI (i + 1))), (2, .int ((runS (sY M) (sT M + 1) (sE M) (i + 1)).2)), (1, .int (nI ((stgs (sY M) (sY M).1)))), (0, .ref b0)]) hx hb dX6_run_36 hl (k := 1) rfl (nI_inc _) (by decide) rfl (fun ls hl => ?_)
        refine lv_goto (tgt := 23) hx hb dX6_run_39 (by decide) ?_
        exact ih23 (i + 1) H4 locs4 (by omega) (by omega) hE4 (hTn.kept f4.1) (hXn.keptF hTn f4 (by decide) (by decide)) (hRn.kept TX.rf f4 (fun t (z : t = 5) => by omega)) (hYn.kept TX.rf f4 (by decide) (by decide) (by decide) (by decide)) hf7 hS ls (lv_sub hl [0, 1, 2, 3] rfl)
  exact loop23 (((stgs (sY M) (sY M).1) - 0) + 1) 0 H2 locs3 (Nat.lt_succ_self _) (Nat.zero_le _) hE1 hT1 hX1 hR1 hY1 (f1.wk (fun t z => Or.inl z)) hS ls (lv_sub hl [0, 1, 2, 3] rfl)
