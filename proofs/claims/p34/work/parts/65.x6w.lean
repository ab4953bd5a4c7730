theorem aAt_stay {Q : mQ} {R : mR} {q p i : Nat} (hp : p < aTo Q R q i) : ∀ r, i ≤ r → aAt Q R q p r = aAt Q R q p i := by
  intro r
  induction r with
  | zero => intro h; rw [Nat.le_zero.mp h]
  | succ r ih =>
    intro h
    rcases Nat.lt_or_eq_of_le h with h2 | h2
    · have := aTo_le2 (Q := Q) (R := R) (q := q) (show i ≤ r by omega)
      rw [aAt_no (Or.inl (by omega))]; exact ih (by omega)
    · rw [h2]
theorem aP_inj {E : mE} {Q : mQ} {R : mR} (iR : InvR E R) {q p1 p2 : Nat} (h1 : p1 < aN Q R q) (h2 : p2 < aN Q R q) (e : aP Q R q p1 = aP Q R q p2) : p1 = p2 := by
  obtain ⟨i, a1, a2, a3, a4, a5⟩ := aAt_lt (rN R) h1
  obtain ⟨j, b1, b2, b3, b4, b5⟩ := aAt_lt (rN R) h2
  unfold aP at e
  rw [a5, b5] at e
  have e2 := Option.some.inj e
  have r1 := iR.only a1 a4 rfl
  have r2 := iR.only b1 b4 rfl
  rw [e2] at r1
  have hij : i = j := r1.symm.trans r2
  subst hij
  have := iR.2.2.2.1 i _ _ a1 a4 b4 e2
  omega
theorem aP_sur {E : mE} {Q : mQ} {R : mR} (iR : InvR E R) {q k : Nat} (hk : mAl E k = true) (ha : ansQ Q q (mKd E k) = true) : ∃ p, p < aN Q R q ∧ aP Q R q p = some k := by
  obtain ⟨j0, r0, rs, rj, re⟩ := iR.at hk
  have h1 := aTo_t (Q := Q) (q := q) (R := R) (r := row R (mKd E k)) (by rw [rs]; exact ha)
  have h2 := aTo_le2 (Q := Q) (R := R) (q := q) (show row R (mKd E k) + 1 ≤ rN R by omega)
  refine ⟨aTo Q R q (row R (mKd E k)) + j0, by show _ < aTo Q R q (rN R); omega, ?_⟩
  show aAt Q R q _ (rN R) = some k
  rw [aAt_stay (i := row R (mKd E k) + 1) (by omega) (rN R) (by omega), aAt_hit (by omega) (by omega), Nat.add_sub_cancel_left, re]
theorem cnt_n {f : Nat → Bool} {i : Nat} (h : ¬ f i = true) : cnt f (i + 1) = cnt f i := by show cnt f i + (if f i = true then 1 else 0) = _; rw [if_neg h]; rfl
/-- what the list of the answers holds while row i is gone over -/
def aG (Q : mQ) (R : mR) (q i : Nat) : Nat → Nat := fun p => if p < aTo Q R q i then (aAt Q R q p i).getD 0 else rM R i (p - aTo Q R q i)
theorem aG_add {Q : mQ} {R : mR} {b q i j : Nat} : ∀ p, p < aTo Q R q i + (j + 1) → ea b (aG Q R q i p) = nu (fun p => ea b (aG Q R q i p)) (aTo Q R q i + j) (ea b (rM R i j)) p := by
  intro p hp
  by_cases c : p = aTo Q R q i + j
  · rw [c, nu_s]
    unfold aG
    rw [if_neg (by omega), Nat.add_sub_cancel_left]
  · rw [nu_n c]
theorem aG_next {Q : mQ} {R : mR} {q i : Nat} (h : ansQ Q q (rS R i) = true) : ∀ p, p < aTo Q R q (i + 1) → (aAt Q R q p (i + 1)).getD 0 = aG Q R q i p := by
  intro p hp
  unfold aG
  by_cases c : p < aTo Q R q i
  · rw [if_pos c, aAt_no (Or.inl c)]
  · rw [if_neg c, aAt_hit (by omega) hp]; rfl
theorem aG_first {Q : mQ} {R : mR} {q i : Nat} : ∀ p, p < aTo Q R q i → aG Q R q i p = (aAt Q R q p i).getD 0 := fun p hp => if_pos hp
theorem aG_skip {Q : mQ} {R : mR} {q i : Nat} (h : ansQ Q q (rS R i) = false) : ∀ p, p < aTo Q R q (i + 1) → (aAt Q R q p (i + 1)).getD 0 = (aAt Q R q p i).getD 0 := by
  intro p hp
  rw [aTo_f h] at hp
  rw [aAt_no (Or.inl hp)]
set_option maxRecDepth 100000 in
theorem in_X6_answers_RX3 : ∀ w ∈ wsX30, w ∈ wsX6_answers := by decide +kernel
set_option maxRecDepth 100000 in
theorem in_X6_answers_RX6 : ∀ w ∈ wsX60, w ∈ wsX6_answers := by decide +kernel
set_option maxHeartbeats 4000000 in
set_option maxRecDepth 100000 in
theorem c_X6_answers (l : Launch) {D : va_G} {T : Nat → ClassId} {dE mi : Nat} (hst : l.stackTraces = false) {A : Nat → Prop} {H : Heap} {b0 : Nat} {tg : Nat → Nat} {wo : Option Nat} {tk : Int32} (hX : PX D T b0 H wo tk) {R : mR} {y : mLy} (hR : RepR D T dE b0 tg H R y) {Q9 : mQ} {zq : mLz} (hQ : RepQ D T dE b0 tg H Q9 zq) (iQ : InvQ Q9) (hs64 : ∀ r, r < rN R → rS R r < 64) (x : Int32) : vx_Met l yX6_answers wsX6_answers (rmL 7 1 6) (PcE D T dE mi A H [.ref b0, .int x]) (QI A (fun r H1 => H1 = H ∧ ∃ j, x = nI j ∧ j < Q9.1 ∧ r = nI (aN Q9 R j))) (XX A (XE H (fun E9 => E9 = "java/lang/IndexOutOfBoundsException" ∧ inB x Q9.1 = false))) 1 6 A := by
  refine entry (cc := cX6_answers) (maxL := 6) (ret := (some .int)) (by decide) rfl (Nat.le_of_ble_eq_true rfl) ?_
  intro p e s m args below meth c hx hb hrt9 hml hown hts hlk hnt hnm hev hS ls hl
  have hown : s.vm.findClass RX6 = some m.cls := hown
  have hK := hev.1
  have hl : lv_has ls 6 [(0, .ref b0), (1, .int x)] := hl
  have hcap9 := hR.1.1.2.1
  have hcap8 := hR.1.1.2.2.1
  refine lv_aload_n hx hb dX6_answers_0 rfl (lv_at hl 0 rfl) ?_
  refine lv_iload_n hx hb dX6_answers_1 rfl (lv_at hl 1 rfl) ?_
  refine k_qp (k_V (As := [.int x]) (rest := []) ⟨hx, hb, hml, hown, hts⟩ hev hS (c_X6_questionNumbered l hst hX hQ x) (cwV 1 hts gX6_answers_X6_questionNumbered rfl rfl rfl (by decide +kernel) ⟨Nat.le_of_ble_eq_true rfl, Nat.le_of_ble_eq_true rfl⟩) (x_recv hK hX.1 rfl) rfl hl.1 (Nat.le_of_ble_eq_true rfl) dX6_answers_2 (Nat.le_of_ble_eq_true rfl) (Nat.le_of_ble_eq_true rfl)) hS hnt hlk (fun E9 H9 h9 z9 => h9) (Nat.le_of_ble_eq_true rfl) (Nat.le_of_ble_eq_true rfl) (fun rq1_ H1 locs1 hP hz1 hS => ?_)
  obtain ⟨eH, j1, hxj, hj1, er⟩ := hP
  have eH := eH.symm
  subst eH
  refine x_tov (y := .ref ((zq.2.2 j1))) (by rw [er]; rfl) ?_
  obtain ⟨hqo, hqt⟩ := hQ.2 j1 hj1
  obtain ⟨qb1, qb2, qb3⟩ := iQ.2 j1 hj1
  refine lv_astore_n (lv' := [(2, .ref ((zq.2.2 j1))), (0, .ref b0), (1, .int x)]) hx hb dX6_answers_5 rfl hl (by decide) rfl (fun ls hl => ?_)
  refine lv_iconst (v := nI 0) hx hb dX6_answers_6 (by decide) ?_
  refine lv_istore_n (lv' := [(3, .int (nI 0)), (2, .ref ((zq.2.2 j1))), (0, .ref b0), (1, .int x)]) hx hb dX6_answers_7 rfl hl (by decide) rfl (fun ls hl => ?_)
  refine lv_iconst (v := nI 0) hx hb dX6_answers_8 (by decide) ?_
  refine lv_istore (lv' := [(4, .int (nI 0)), (3, .int (nI 0)), (2, .ref ((zq.2.2 j1))), (0, .ref b0), (1, .int x)]) hx hb dX6_answers_9 hl (by decide) rfl (fun ls hl => ?_)
  have loop11 : ∀ (n : Nat) (i : Nat) (locsi_ : List Loc), rN R - i < n → (i ≤ rN R) → (va_S A s.heap H locsi_) → ∀ (ls : Array Slot), lv_has ls 6 [(4, .int (nI i)), (3, .int (nI ((aTo Q9 R j1 i)))), (2, .ref ((zq.2.2 j1))), (0, .ref b0)] → W p l e (rmL 7 1 6) s m args below meth c H locsi_ (0 + 1) (0 + 6) (vx_MQ below (QI A (fun r H1 => H1 = H ∧ ∃ j, x = nI j ∧ j < Q9.1 ∧ r = nI (aN Q9 R j))) (XX A (XE H (fun E9 => E9 = "java/lang/IndexOutOfBoundsException" ∧ inB x Q9.1 = false))) args s 1 6 A) (F0 m 11 ls []) := by
    intro n
    induction n with
    | zero => intro i locsi_ hfuel; exact absurd hfuel (Nat.not_lt_zero _)
    | succ n ih11 =>
      intro i locsi_ hfuel hi hS ls hl
      refine lv_iload hx hb dX6_answers_11 (lv_at hl 0 rfl) ?_
      refine lv_aload_n hx hb dX6_answers_13 rfl (lv_at hl 3 rfl) ?_
      refine x_get (C := RX6) (TT := TX6) (N := 6) (ci := 9) (v := .ref ((b0 + 2))) hx hb hts in_X6_answers_RX6 hown hK (hX.1) rfl 1 (by decide) (hts (.fieldLink RX6 18 "Archeloft" "rowList" "Ljava/util/ArrayList;") (by decide +kernel)) (fun _ h9 => h9) rfl dX6_answers_14 ?_
      refine k_ip (k_V (As := []) (rest := [.int (nI i)]) ⟨hx, hb, hml, hown, hts⟩ hev hS (c_Jx4a65c_size_8abf5 l hR.1.1) (cwV 0 hts gX6_answers_Jx4a65c_size_8abf5 rfl rfl rfl (by decide +kernel) ⟨Nat.le_of_ble_eq_true rfl, Nat.le_of_ble_eq_true rfl⟩) (x_recv hK ((hR.1.1.rec).choose_spec) rfl) rfl hl.1 (Nat.le_of_ble_eq_true rfl) dX6_answers_17 (Nat.le_of_ble_eq_true rfl) (Nat.le_of_ble_eq_true rfl)) hS hnt hlk (fun _ _ h _ => h.elim) (Nat.le_of_ble_eq_true rfl) (Nat.le_of_ble_eq_true rfl) (fun rq2_ H2 locs2 hP hz2 hS => ?_)
      refine W.widen (k := 0 + 1) (n := 0 + 6) (Nat.le_refl _) (Nat.le_refl _) ?_
      obtain ⟨eH, er⟩ := hP
      have eH := eH.symm
      subst eH
      refine x_top (y := (nI ((rN R)))) (er) ?_
      refine y_icmp_ge hx hb (by omega) (by omega) (tgt := 66) dX6_answers_20 (by decide) (fun c20 => ?_) (fun c20 => ?_)
      · have ei : i = rN R := by omega
        refine lv_iload_n hx hb dX6_answers_66 rfl (lv_at hl 1 rfl) ?_
        exact r_i hx hb hrt9 hlk hS (Nat.le_of_ble_eq_true rfl) (Nat.le_of_ble_eq_true rfl) dX6_answers_67 (⟨rfl, j1, hxj, hj1, by rw [ei]; rfl⟩)
      · have hi2 : i < rN R := by omega
        obtain ⟨hro, hrt, hrl⟩ := hR.2 i hi2
        have hsi := hs64 i hi2
        refine lv_aload_n hx hb dX6_answers_23 rfl (lv_at hl 3 rfl) ?_
        refine x_get (C := RX6) (TT := TX6) (N := 6) (ci := 9) (v := .ref ((b0 + 2))) hx hb hts in_X6_answers_RX6 hown hK (hX.1) rfl 1 (by decide) (hts (.fieldLink RX6 18 "Archeloft" "rowList" "Ljava/util/ArrayList;") (by decide +kernel)) (fun _ h9 => h9) rfl dX6_answers_24 ?_
        refine lv_iload hx hb dX6_answers_27 (lv_at hl 0 rfl) ?_
        refine k_qp (k_V (As := [.int (nI i)]) (rest := []) ⟨hx, hb, hml, hown, hts⟩ hev hS (c_Jx4a65c_get_915e3 l hR.1.1 (i := i) (hi2)) (cwV 1 hts gX6_answers_Jx4a65c_get_915e3 rfl rfl rfl (by decide +kernel) ⟨Nat.le_of_ble_eq_true rfl, Nat.le_of_ble_eq_true rfl⟩) (x_recv hK ((hR.1.1.rec).choose_spec) rfl) rfl hl.1 (Nat.le_of_ble_eq_true rfl) dX6_answers_29 (Nat.le_of_ble_eq_true rfl) (Nat.le_of_ble_eq_true rfl)) hS hnt hlk (fun _ _ h _ => h.elim) (Nat.le_of_ble_eq_true rfl) (Nat.le_of_ble_eq_true rfl) (fun rq3_ H3 locs3 hP hz3 hS => ?_)
        refine W.widen (k := 0 + 1) (n := 0 + 6) (Nat.le_refl _) (Nat.le_refl _) ?_
        obtain ⟨eH, er⟩ := hP
        have eH := eH.symm
        subst eH
        refine x_tov (y := .ref ((yW y i))) (by rw [er]; rfl) ?_
        refine va_castE hx hb hown (hts (.classLink RX6 55 "Archeloft$Row") (by decide +kernel)) (x_recv hK hro rfl) dX6_answers_32 ?_
        refine lv_astore (lv' := [(5, .ref ((yW y i))), (4, .int (nI i)), (3, .int (nI ((aTo Q9 R j1 i)))), (2, .ref ((zq.2.2 j1))), (0, .ref b0)]) hx hb dX6_answers_35 hl (by decide) rfl (fun ls hl => ?_)
        refine lv_aload_n hx hb dX6_answers_37 rfl (lv_at hl 3 rfl) ?_
        refine lv_aload hx hb dX6_answers_38 (lv_at hl 0 rfl) ?_
        refine x_getN (C := RX3) (TT := TX3) (N := 2) (ci := 6) (v := .int (nI ((rS R i)))) hx hb hts in_X6_answers_RX3 hown hK (hro) rfl 0 (by decide) (hev.2.2.2.2.1.2 ("Archeloft", 142, "Archeloft$Row", "kindSet", "I") (by decide +kernel)) (fun _ h9 => h9) rfl dX6_answers_40 ?_
        refine k_ip (k_V (As := [.int (nI ((rS R i)))]) (rest := []) ⟨hx, hb, hml, hown, hts⟩ hev hS (c_X2_isAnsweredBy l hqo qb1 qb2 qb3 (hsi)) (cwV 1 hts gX6_answers_X2_isAnsweredBy rfl rfl rfl (by decide +kernel) ⟨Nat.le_of_ble_eq_true rfl, Nat.le_of_ble_eq_true rfl⟩) (x_recv hK hqo rfl) rfl hl.1 (Nat.le_of_ble_eq_true rfl) dX6_answers_43 (Nat.le_of_ble_eq_true rfl) (Nat.le_of_ble_eq_true rfl)) hS hnt hlk (fun _ _ h _ => h.elim) (Nat.le_of_ble_eq_true rfl) (Nat.le_of_ble_eq_true rfl) (fun rq4_ H4 locs4 hP hz4 hS => ?_)
        refine W.widen (k := 0 + 1) (n := 0 + 6) (Nat.le_refl _) (Nat.le_refl _) ?_
        obtain ⟨eH, er3⟩ := hP
        have eH := eH.symm
        subst eH
        refine x_top (y := (bI ((ansQ Q9 j1 (rS R i))))) (er3) ?_
        refine y_bif_eq hx hb (tgt := 60) dX6_answers_46 (by decide) (fun c46 => ?_) (fun c46 => ?_)
        · have hl : lv_has ls 6 [(5, .ref ((yW y i))), (4, .int (nI i)), (3, .int (nI ((aTo Q9 R j1 (i + 1))))), (2, .ref ((zq.2.2 j1))), (0, .ref b0)] := by
            have e9 : (nI ((aTo Q9 R j1 i))) = (nI ((aTo Q9 R j1 (i + 1)))) := by rw [aTo_f c46]
            rw [← e9]; exact hl
          refine lv_iinc (v := (nI (i + 1))) (lv' := [(4, .int (nI (i + 1))), (5, .ref ((yW y i))), (3, .int (nI ((aTo Q9 R j1 (i + 1))))), (2, .ref ((zq.2.2 j1))), (0, .ref b0)]) hx hb dX6_answers_60 hl (k := 1) rfl (nI_inc _) (by decide) rfl (fun ls hl => ?_)
          refine lv_goto (tgt := 11) hx hb dX6_answers_63 (by decide) ?_
          exact ih11 (i + 1) locs4 (by omega) (by omega) hS ls (lv_sub hl [0, 2, 3, 4] rfl)
        · refine lv_iload_n hx hb dX6_answers_49 rfl (lv_at hl 2 rfl) ?_
          refine lv_aload hx hb dX6_answers_50 (lv_at hl 0 rfl) ?_
          refine x_getN (C := RX3) (TT := TX3) (N := 2) (ci := 6) (v := .ref ((yL y i))) hx hb hts in_X6_answers_RX3 hown hK (hro) rfl 1 (by decide) (hev.2.2.2.2.1.2 ("Archeloft", 54, "Archeloft$Row", "members", "Ljava/util/ArrayList;") (by decide +kernel)) (fun _ h9 => h9) rfl dX6_answers_52 ?_
          refine k_ip (k_V (As := []) (rest := [.int (nI ((aTo Q9 R j1 i)))]) ⟨hx, hb, hml, hown, hts⟩ hev hS (c_Jx4a65c_size_8abf5 l hrl.1) (cwV 0 hts gX6_answers_Jx4a65c_size_8abf5 rfl rfl rfl (by decide +kernel) ⟨Nat.le_of_ble_eq_true rfl, Nat.le_of_ble_eq_true rfl⟩) (x_recv hK ((hrl.1.rec).choose_spec) rfl) rfl hl.1 (Nat.le_of_ble_eq_true rfl) dX6_answers_55 (Nat.le_of_ble_eq_true rfl) (Nat.le_of_ble_eq_true rfl)) hS hnt hlk (fun _ _ h _ => h.elim) (Nat.le_of_ble_eq_true rfl) (Nat.le_of_ble_eq_true rfl) (fun rq5_ H5 locs5 hP hz5 hS => ?_)
          refine W.widen (k := 0 + 1) (n := 0 + 6) (Nat.le_refl _) (Nat.le_refl _) ?_
          obtain ⟨eH, er⟩ := hP
          have eH := eH.symm
          subst eH
          refine x_top (y := (nI ((rZ R i)))) (er) ?_
          refine y_iadd hx hb dX6_answers_58 ?_
          refine lv_istore_n (lv' := [(3, .int (nI ((aTo Q9 R j1 i) + (rZ R i)))), (5, .ref ((yW y i))), (4, .int (nI i)), (2, .ref ((zq.2.2 j1))), (0, .ref b0)]) hx hb dX6_answers_59 rfl hl (by decide) rfl (fun ls hl => ?_)
          have hl : lv_has ls 6 [(3, .int (nI ((aTo Q9 R j1 (i + 1))))), (5, .ref ((yW y i))), (4, .int (nI i)), (2, .ref ((zq.2.2 j1))), (0, .ref b0)] := by
            have e9 : (nI ((aTo Q9 R j1 i) + (rZ R i))) = (nI ((aTo Q9 R j1 (i + 1)))) := by rw [aTo_t c46]
            rw [← e9]; exact hl
          refine lv_iinc (v := (nI (i + 1))) (lv' := [(4, .int (nI (i + 1))), (3, .int (nI ((aTo Q9 R j1 (i + 1))))), (5, .ref ((yW y i))), (2, .ref ((zq.2.2 j1))), (0, .ref b0)]) hx hb dX6_answers_60 hl (k := 2) rfl (nI_inc _) (by decide) rfl (fun ls hl => ?_)
          refine lv_goto (tgt := 11) hx hb dX6_answers_63 (by decide) ?_
          exact ih11 (i + 1) locs5 (by omega) (by omega) hS ls (lv_sub hl [0, 1, 3, 4] rfl)
  exact loop11 ((rN R - 0) + 1) 0 locs1 (Nat.lt_succ_self _) (Nat.zero_le _) hS ls (lv_sub hl [0, 1, 2, 3] rfl)
set_option maxRecDepth 100000 in
theorem in_X6_answeringRows_RX3 : ∀ w ∈ wsX30, w ∈ wsX6_answeringRows := by decide +kernel
set_option maxRecDepth 100000 in
theorem in_X6_answeringRows_RX6 : ∀ w ∈ wsX60, w ∈ wsX6_answeringRows := by decide +kernel
set_option maxHeartbeats 4000000 in
set_option maxRecDepth 100000 in
theorem c_X6_answeringRows (l : Launch) {D : va_G} {T : Nat → ClassId} {dE mi : Nat} (hst : l.stackTraces = false) {A : Nat → Prop} {H : Heap} {b0 : Nat} {tg : Nat → Nat} {wo : Option Nat} {tk : Int32} (hX : PX D T b0 H wo tk) {R : mR} {y : mLy} (hR : RepR D T dE b0 tg H R y) {Q9 : mQ} {zq : mLz} (hQ : RepQ D T dE b0 tg H Q9 zq) (iQ : InvQ Q9) (hs64 : ∀ r, r < rN R → rS R r < 64) (x : Int32) : vx_Met l yX6_answeringRows wsX6_answeringRows (rmL 7 1 6) (PcE D T dE mi A H [.ref b0, .int x]) (QI A (fun r H1 => H1 = H ∧ ∃ j, x = nI j ∧ j < Q9.1 ∧ r = nI (cnt (fun r => ansQ Q9 j (rS R r)) (rN R)))) (XX A (XE H (fun E9 => E9 = "java/lang/IndexOutOfBoundsException" ∧ inB x Q9.1 = false))) 1 6 A := by
  refine entry (cc := cX6_answeringRows) (maxL := 5) (ret := (some .int)) (by decide) rfl (Nat.le_of_ble_eq_true rfl) ?_
  intro p e s m args below meth c hx hb hrt9 hml hown hts hlk hnt hnm hev hS ls hl
  have hown : s.vm.findClass RX6 = some m.cls := hown
  have hK := hev.1
  have hl : lv_has ls 5 [(0, .ref b0), (1, .int x)] := hl
  have hcap9 := hR.1.1.2.1
  have hcap8 := hR.1.1.2.2.1
  refine lv_aload_n hx hb dX6_answeringRows_0 rfl (lv_at hl 0 rfl) ?_
  refine lv_iload_n hx hb dX6_answeringRows_1 rfl (lv_at hl 1 rfl) ?_
  refine k_qp (k_V (As := [.int x]) (rest := []) ⟨hx, hb, hml, hown, hts⟩ hev hS (c_X6_questionNumbered l hst hX hQ x) (cwV 1 hts gX6_answeringRows_X6_questionNumbered rfl rfl rfl (by decide +kernel) ⟨Nat.le_of_ble_eq_true rfl, Nat.le_of_ble_eq_true rfl⟩) (x_recv hK hX.1 rfl) rfl hl.1 (Nat.le_of_ble_eq_true rfl) dX6_answeringRows_2 (Nat.le_of_ble_eq_true rfl) (Nat.le_of_ble_eq_true rfl)) hS hnt hlk (fun E9 H9 h9 z9 => h9) (Nat.le_of_ble_eq_true rfl) (Nat.le_of_ble_eq_true rfl) (fun rq1_ H1 locs1 hP hz1 hS => ?_)
  obtain ⟨eH, j1, hxj, hj1, er⟩ := hP
  have eH := eH.symm
  subst eH
  refine x_tov (y := .ref ((zq.2.2 j1))) (by rw [er]; rfl) ?_
  obtain ⟨hqo, hqt⟩ := hQ.2 j1 hj1
  obtain ⟨qb1, qb2, qb3⟩ := iQ.2 j1 hj1
  refine lv_astore_n (lv' := [(2, .ref ((zq.2.2 j1))), (0, .ref b0), (1, .int x)]) hx hb dX6_answeringRows_5 rfl hl (by decide) rfl (fun ls hl => ?_)
  refine lv_iconst (v := nI 0) hx hb dX6_answeringRows_6 (by decide) ?_
  refine lv_istore_n (lv' := [(3, .int (nI 0)), (2, .ref ((zq.2.2 j1))), (0, .ref b0), (1, .int x)]) hx hb dX6_answeringRows_7 rfl hl (by decide) rfl (fun ls hl => ?_)
  refine lv_iconst (v := nI 0) hx hb dX6_answeringRows_8 (by decide) ?_
  refine lv_istore (lv' := [(4, .int (nI 0)), (3, .int (nI 0)), (2, .ref ((zq.2.2 j1))), (0, .ref b0), (1, .int x)]) hx hb dX6_answeringRows_9 hl (by decide) rfl (fun ls hl => ?_)
  have loop11 : ∀ (n : Nat) (i : Nat) (locsi_ : List Loc), rN R - i < n → (i ≤ rN R) → (va_S A s.heap H locsi_) → ∀ (ls : Array Slot), lv_has ls 5 [(4, .int (nI i)), (3, .int (nI ((cnt (fun r => ansQ Q9 j1 (rS R r)) i)))), (2, .ref ((zq.2.2 j1))), (0, .ref b0)] → W p l e (rmL 7 1 6) s m args below meth c H locsi_ (0 + 1) (0 + 6) (vx_MQ below (QI A (fun r H1 => H1 = H ∧ ∃ j, x = nI j ∧ j < Q9.1 ∧ r = nI (cnt (fun r => ansQ Q9 j (rS R r)) (rN R)))) (XX A (XE H (fun E9 => E9 = "java/lang/IndexOutOfBoundsException" ∧ inB x Q9.1 = false))) args s 1 6 A) (F0 m 11 ls []) := by
    intro n
    induction n with
    | zero => intro i locsi_ hfuel; exact absurd hfuel (Nat.not_lt_zero _)
    | succ n ih11 =>
      intro i locsi_ hfuel hi hS ls hl
      refine lv_iload hx hb dX6_answeringRows_11 (lv_at hl 0 rfl) ?_
      refine lv_aload_n hx hb dX6_answeringRows_13 rfl (lv_at hl 3 rfl) ?_
      refine x_get (C := RX6) (TT := TX6) (N := 6) (ci := 9) (v := .ref ((b0 + 2))) hx hb hts in_X6_answeringRows_RX6 hown hK (hX.1) rfl 1 (by decide) (hts (.fieldLink RX6 18 "Archeloft" "rowList" "Ljava/util/ArrayList;") (by decide +kernel)) (fun _ h9 => h9) rfl dX6_answeringRows_14 ?_
      refine k_ip (k_V (As := []) (rest := [.int (nI i)]) ⟨hx, hb, hml, hown, hts⟩ hev hS (c_Jx4a65c_size_8abf5 l hR.1.1) (cwV 0 hts gX6_answeringRows_Jx4a65c_size_8abf5 rfl rfl rfl (by decide +kernel) ⟨Nat.le_of_ble_eq_true rfl, Nat.le_of_ble_eq_true rfl⟩) (x_recv hK ((hR.1.1.rec).choose_spec) rfl) rfl hl.1 (Nat.le_of_ble_eq_true rfl) dX6_answeringRows_17 (Nat.le_of_ble_eq_true rfl) (Nat.le_of_ble_eq_true rfl)) hS hnt hlk (fun _ _ h _ => h.elim) (Nat.le_of_ble_eq_true rfl) (Nat.le_of_ble_eq_true rfl) (fun rq2_ H2 locs2 hP hz2 hS => ?_)
      refine W.widen (k := 0 + 1) (n := 0 + 6) (Nat.le_refl _) (Nat.le_refl _) ?_
      obtain ⟨eH, er⟩ := hP
      have eH := eH.symm
      subst eH
      refine x_top (y := (nI ((rN R)))) (er) ?_
      refine y_icmp_ge hx hb (by omega) (by omega) (tgt := 54) dX6_answeringRows_20 (by decide) (fun c20 => ?_) (fun c20 => ?_)
      · have ei : i = rN R := by omega
        refine lv_iload_n hx hb dX6_answeringRows_54 rfl (lv_at hl 1 rfl) ?_
        exact r_i hx hb hrt9 hlk hS (Nat.le_of_ble_eq_true rfl) (Nat.le_of_ble_eq_true rfl) dX6_answeringRows_55 (⟨rfl, j1, hxj, hj1, by rw [ei]⟩)
      · have hi2 : i < rN R := by omega
        obtain ⟨hro, hrt, hrl⟩ := hR.2 i hi2
        have hsi := hs64 i hi2
        refine lv_aload_n hx hb dX6_answeringRows_23 rfl (lv_at hl 2 rfl) ?_
        refine lv_aload_n hx hb dX6_answeringRows_24 rfl (lv_at hl 3 rfl) ?_
        refine x_get (C := RX6) (TT := TX6) (N := 6) (ci := 9) (v := .ref ((b0 + 2))) hx hb hts in_X6_answeringRows_RX6 hown hK (hX.1) rfl 1 (by decide) (hts (.fieldLink RX6 18 "Archeloft" "rowList" "Ljava/util/ArrayList;") (by decide +kernel)) (fun _ h9 => h9) rfl dX6_answeringRows_25 ?_
        refine lv_iload hx hb dX6_answeringRows_28 (lv_at hl 0 rfl) ?_
        refine k_qp (k_V (As := [.int (nI i)]) (rest := [.ref ((zq.2.2 j1))]) ⟨hx, hb, hml, hown, hts⟩ hev hS (c_Jx4a65c_get_915e3 l hR.1.1 (i := i) (hi2)) (cwV 1 hts gX6_answeringRows_Jx4a65c_get_915e3 rfl rfl rfl (by decide +kernel) ⟨Nat.le_of_ble_eq_true rfl, Nat.le_of_ble_eq_true rfl⟩) (x_recv hK ((hR.1.1.rec).choose_spec) rfl) rfl hl.1 (Nat.le_of_ble_eq_true rfl) dX6_answeringRows_30 (Nat.le_of_ble_eq_true rfl) (Nat.le_of_ble_eq_true rfl)) hS hnt hlk (fun _ _ h _ => h.elim) (Nat.le_of_ble_eq_true rfl) (Nat.le_of_ble_eq_true rfl) (fun rq3_ H3 locs3 hP hz3 hS => ?_)
        refine W.widen (k := 0 + 1) (n := 0 + 6) (Nat.le_refl _) (Nat.le_refl _) ?_
        obtain ⟨eH, er⟩ := hP
        have eH := eH.symm
        subst eH
        refine x_tov (y := .ref ((yW y i))) (by rw [er]; rfl) ?_
        refine va_castE hx hb hown (hts (.classLink RX6 55 "Archeloft$Row") (by decide +kernel)) (x_recv hK hro rfl) dX6_answeringRows_33 ?_
        refine x_getN (C := RX3) (TT := TX3) (N := 2) (ci := 6) (v := .int (nI ((rS R i)))) hx hb hts in_X6_answeringRows_RX3 hown hK (hro) rfl 0 (by decide) (hev.2.2.2.2.1.2 ("Archeloft", 142, "Archeloft$Row", "kindSet", "I") (by decide +kernel)) (fun _ h9 => h9) rfl dX6_answeringRows_36 ?_
        refine k_ip (k_V (As := [.int (nI ((rS R i)))]) (rest := []) ⟨hx, hb, hml, hown, hts⟩ hev hS (c_X2_isAnsweredBy l hqo qb1 qb2 qb3 (hsi)) (cwV 1 hts gX6_answeringRows_X2_isAnsweredBy rfl rfl rfl (by decide +kernel) ⟨Nat.le_of_ble_eq_true rfl, Nat.le_of_ble_eq_true rfl⟩) (x_recv hK hqo rfl) rfl hl.1 (Nat.le_of_ble_eq_true rfl) dX6_answeringRows_39 (Nat.le_of_ble_eq_true rfl) (Nat.le_of_ble_eq_true rfl)) hS hnt hlk (fun _ _ h _ => h.elim) (Nat.le_of_ble_eq_true rfl) (Nat.le_of_ble_eq_true rfl) (fun rq4_ H4 locs4 hP hz4 hS => ?_)
        refine W.widen (k := 0 + 1) (n := 0 + 6) (Nat.le_refl _) (Nat.le_refl _) ?_
        obtain ⟨eH, er3⟩ := hP
        have eH := eH.symm
        subst eH
        refine x_top (y := (bI ((ansQ Q9 j1 (rS R i))))) (er3) ?_
        refine y_bif_eq hx hb (tgt := 48) dX6_answeringRows_42 (by decide) (fun c42 => ?_) (fun c42 => ?_)
        · have hl : lv_has ls 5 [(4, .int (nI i)), (3, .int (nI ((cnt (fun r => ansQ Q9 j1 (rS R r)) (i + 1))))), (2, .ref ((zq.2.2 j1))), (0, .ref b0)] := by
            have e9 : (nI ((cnt (fun r => ansQ Q9 j1 (rS R r)) i))) = (nI ((cnt (fun r => ansQ Q9 j1 (rS R r)) (i + 1)))) := by rw [cnt_n (f := fun r => ansQ Q9 j1 (rS R r)) (by rw [c42]; decide)]
            rw [← e9]; exact hl
          refine lv_iinc (v := (nI (i + 1))) (lv' := [(4, .int (nI (i + 1))), (3, .int (nI ((cnt (fun r => ansQ Q9 j1 (rS R r)) (i + 1))))), (2, .ref ((zq.2.2 j1))), (0, .ref b0)]) hx hb dX6_answeringRows_48 hl (k := 0) rfl (nI_inc _) (by decide) rfl (fun ls hl => ?_)
          refine lv_goto (tgt := 11) hx hb dX6_answeringRows_51 (by decide) ?_
          exact ih11 (i + 1) locs4 (by omega) (by omega) hS ls (lv_sub hl [0, 1, 2, 3] rfl)
        · refine lv_iinc (v := (nI ((cnt (fun r => ansQ Q9 j1 (rS R r)) i) + 1))) (lv' := [(3, .int (nI ((cnt (fun r => ansQ Q9 j1 (rS R r)) i) + 1))), (4, .int (nI i)), (2, .ref ((zq.2.2 j1))), (0, .ref b0)]) hx hb dX6_answeringRows_45 hl (k := 1) rfl (nI_inc _) (by decide) rfl (fun ls hl => ?_)
          have hl : lv_has ls 5 [(3, .int (nI ((cnt (fun r => ansQ Q9 j1 (rS R r)) (i + 1))))), (4, .int (nI i)), (2, .ref ((zq.2.2 j1))), (0, .ref b0)] := by
            have e9 : (nI ((cnt (fun r => ansQ Q9 j1 (rS R r)) i) + 1)) = (nI ((cnt (fun r => ansQ Q9 j1 (rS R r)) (i + 1)))) := by rw [cnt_t (f := fun r => ansQ Q9 j1 (rS R r)) c42]
            rw [← e9]; exact hl
          refine lv_iinc (v := (nI (i + 1))) (lv' := [(4, .int (nI (i + 1))), (3, .int (nI ((cnt (fun r => ansQ Q9 j1 (rS R r)) (i + 1))))), (2, .ref ((zq.2.2 j1))), (0, .ref b0)]) hx hb dX6_answeringRows_48 hl (k := 1) rfl (nI_inc _) (by decide) rfl (fun ls hl => ?_)
          refine lv_goto (tgt := 11) hx hb dX6_answeringRows_51 (by decide) ?_
          exact ih11 (i + 1) locs4 (by omega) (by omega) hS ls (lv_sub hl [0, 1, 2, 3] rfl)
  exact loop11 ((rN R - 0) + 1) 0 locs1 (Nat.lt_succ_self _) (Nat.zero_le _) hS ls (lv_sub hl [0, 1, 2, 3] rfl)
set_option maxRecDepth 100000 in
theorem in_X6_answersOneByOne_RX1 : ∀ w ∈ wsX10, w ∈ wsX6_answersOneByOne := by decide +kernel
set_option maxRecDepth 100000 in
theorem in_X6_answersOneByOne_RX6 : ∀ w ∈ wsX60, w ∈ wsX6_answersOneByOne := by decide +kernel
set_option maxHeartbeats 4000000 in
set_option maxRecDepth 100000 in
theorem c_X6_answersOneByOne (l : Launch) {D : va_G} {T : Nat → ClassId} {dE mi : Nat} (hst : l.stackTraces = false) {A : Nat → Prop} {H : Heap} {b0 : Nat} {tg : Nat → Nat} {wo : Option Nat} {tk : Int32} (hX : PX D T b0 H wo tk) {E : mE} (hE : PE D T b0 H E) (iE : InvE E) {Q9 : mQ} {zq : mLz} (hQ : RepQ D T dE b0 tg H Q9 zq) (iQ : InvQ Q9) (x : Int32) : vx_Met l yX6_answersOneByOne wsX6_answersOneByOne (rmL 7 1 6) (PcE D T dE mi A H [.ref b0, .int x]) (QI A (fun r H1 => H1 = H ∧ ∃ j, x = nI j ∧ j < Q9.1 ∧ r = nI (cnt (fun k => mAl E k && ansQ Q9 j (mKd E k)) 32))) (XX A (XE H (fun E9 => E9 = "java/lang/IndexOutOfBoundsException" ∧ inB x Q9.1 = false))) 1 6 A := by
  refine entry (cc := cX6_answersOneByOne) (maxL := 6) (ret := (some .int)) (by decide) rfl (Nat.le_of_ble_eq_true rfl) ?_
  intro p e s m args below meth c hx hb hrt9 hml hown hts hlk hnt hnm hev hS ls hl
  have hown : s.vm.findClass RX6 = some m.cls := hown
  have hK := hev.1
  have hl : lv_has ls 6 [(0, .ref b0), (1, .int x)] := hl
  refine lv_aload_n hx hb dX6_answersOneByOne_0 rfl (lv_at hl 0 rfl) ?_
  refine lv_iload_n hx hb dX6_answersOneByOne_1 rfl (lv_at hl 1 rfl) ?_
  refine k_qp (k_V (As := [.int x]) (rest := []) ⟨hx, hb, hml, hown, hts⟩ hev hS (c_X6_questionNumbered l hst hX hQ x) (cwV 1 hts gX6_answersOneByOne_X6_questionNumbered rfl rfl rfl (by decide +kernel) ⟨Nat.le_of_ble_eq_true rfl, Nat.le_of_ble_eq_true rfl⟩) (x_recv hK hX.1 rfl) rfl hl.1 (Nat.le_of_ble_eq_true rfl) dX6_answersOneByOne_2 (Nat.le_of_ble_eq_true rfl) (Nat.le_of_ble_eq_true rfl)) hS hnt hlk (fun E9 H9 h9 z9 => h9) (Nat.le_of_ble_eq_true rfl) (Nat.le_of_ble_eq_true rfl) (fun rq1_ H1 locs1 hP hz1 hS => ?_)
  obtain ⟨eH, j1, hxj, hj1, er⟩ := hP
  have eH := eH.symm
  subst eH
  refine x_tov (y := .ref ((zq.2.2 j1))) (by rw [er]; rfl) ?_
  obtain ⟨hqo, hqt⟩ := hQ.2 j1 hj1
  obtain ⟨qb1, qb2, qb3⟩ := iQ.2 j1 hj1
  refine lv_astore_n (lv' := [(2, .ref ((zq.2.2 j1))), (0, .ref b0), (1, .int x)]) hx hb dX6_answersOneByOne_5 rfl hl (by decide) rfl (fun ls hl => ?_)
  refine lv_iconst (v := nI 0) hx hb dX6_answersOneByOne_6 (by decide) ?_
  refine lv_istore_n (lv' := [(3, .int (nI 0)), (2, .ref ((zq.2.2 j1))), (0, .ref b0), (1, .int x)]) hx hb dX6_answersOneByOne_7 rfl hl (by decide) rfl (fun ls hl => ?_)
  refine lv_iconst (v := nI 0) hx hb dX6_answersOneByOne_8 (by decide) ?_
  refine lv_istore (lv' := [(4, .int (nI 0)), (3, .int (nI 0)), (2, .ref ((zq.2.2 j1))), (0, .ref b0), (1, .int x)]) hx hb dX6_answersOneByOne_9 hl (by decide) rfl (fun ls hl => ?_)
  have loop11 : ∀ (n : Nat) (i : Nat) (locsi_ : List Loc), 32 - i < n → (i ≤ 32) → (va_S A s.heap H locsi_) → ∀ (ls : Array Slot), lv_has ls 6 [(4, .int (nI i)), (3, .int (nI ((cnt (fun k => mAl E k && ansQ Q9 j1 (mKd E k)) i)))), (2, .ref ((zq.2.2 j1))), (0, .ref b0)] → W p l e (rmL 7 1 6) s m args below meth c H locsi_ (0 + 1) (0 + 6) (vx_MQ below (QI A (fun r H1 => H1 = H ∧ ∃ j, x = nI j ∧ j < Q9.1 ∧ r = nI (cnt (fun k => mAl E k && ansQ Q9 j (mKd E k)) 32))) (XX A (XE H (fun E9 => E9 = "java/lang/IndexOutOfBoundsException" ∧ inB x Q9.1 = false))) args s 1 6 A) (F0 m 11 ls []) := by
    intro n
    induction n with
    | zero => intro i locsi_ hfuel; exact absurd hfuel (Nat.not_lt_zero _)
    | succ n ih11 =>
      intro i locsi_ hfuel hi hS ls hl
      refine lv_iload hx hb dX6_answersOneByOne_11 (lv_at hl 0 rfl) ?_
      refine lv_bipush (v := nI 32) hx hb dX6_answersOneByOne_13 (by decide) ?_
      refine y_icmp_ge hx hb (by omega) (Nat.le_of_ble_eq_true rfl) (tgt := 56) dX6_answersOneByOne_15 (by decide) (fun c15 => ?_) (fun c15 => ?_)
      · have ei : i = 32 := by omega
        refine lv_iload_n hx hb dX6_answersOneByOne_56 rfl (lv_at hl 1 rfl) ?_
        exact r_i hx hb hrt9 hlk hS (Nat.le_of_ble_eq_true rfl) (Nat.le_of_ble_eq_true rfl) dX6_answersOneByOne_57 (⟨rfl, j1, hxj, hj1, by rw [ei]⟩)
      · have hi2 : i < 32 := by omega
        refine lv_aload_n hx hb dX6_answersOneByOne_18 rfl (lv_at hl 3 rfl) ?_
        refine x_get (C := RX6) (TT := TX6) (N := 6) (ci := 9) (v := .ref ((b0 + 1))) hx hb hts in_X6_answersOneByOne_RX6 hown hK (hX.1) rfl 0 (by decide) (hts (.fieldLink RX6 11 "Archeloft" "slots" "[LArcheloft$Entity;") (by decide +kernel)) (fun _ h9 => h9) rfl dX6_answersOneByOne_19 ?_
        refine lv_iload hx hb dX6_answersOneByOne_22 (lv_at hl 0 rfl) ?_
        refine x_eald (i := i) hx hb hK hX.2 (by omega) (by decide) dX6_answersOneByOne_24 ?_
        refine x_tov (y := .ref (ea b0 i)) rfl ?_
        refine lv_astore (lv' := [(5, .ref ((ea b0 i))), (4, .int (nI i)), (3, .int (nI ((cnt (fun k => mAl E k && ansQ Q9 j1 (mKd E k)) i)))), (2, .ref ((zq.2.2 j1))), (0, .ref b0)]) hx hb dX6_answersOneByOne_25 hl (by decide) rfl (fun ls hl => ?_)
        refine lv_aload hx hb dX6_answersOneByOne_27 (lv_at hl 0 rfl) ?_
        refine x_getN (C := RX1) (TT := TX1) (N := 6) (ci := 4) (v := .int (bI ((mAl E i)))) hx hb hts in_X6_answersOneByOne_RX1 hown hK ((hE i hi2).1) rfl 3 (by decide) (hev.2.2.2.2.1.2 ("Archeloft", 46, "Archeloft$Entity", "there", "Z") (by decide +kernel)) (fun _ h9 => h9) rfl dX6_answersOneByOne_29 ?_
        refine y_bif_eq hx hb (tgt := 50) dX6_answersOneByOne_32 (by decide) (fun c32 => ?_) (fun c32 => ?_)
        · have hl : lv_has ls 6 [(5, .ref ((ea b0 i))), (4, .int (nI i)), (3, .int (nI ((cnt (fun k => mAl E k && ansQ Q9 j1 (mKd E k)) (i + 1))))), (2, .ref ((zq.2.2 j1))), (0, .ref b0)] := by
            have e9 : (nI ((cnt (fun k => mAl E k && ansQ Q9 j1 (mKd E k)) i))) = (nI ((cnt (fun k => mAl E k && ansQ Q9 j1 (mKd E k)) (i + 1)))) := by rw [cnt_n (f := fun k => mAl E k && ansQ Q9 j1 (mKd E k)) (by show ¬ (mAl E i && _) = true; rw [c32]; exact fun z => nomatch z)]
            rw [← e9]; exact hl
          refine lv_iinc (v := (nI (i + 1))) (lv' := [(4, .int (nI (i + 1))), (5, .ref ((ea b0 i))), (3, .int (nI ((cnt (fun k => mAl E k && ansQ Q9 j1 (mKd E k)) (i + 1))))), (2, .ref ((zq.2.2 j1))), (0, .ref b0)]) hx hb dX6_answersOneByOne_50 hl (k := 1) rfl (nI_inc _) (by decide) rfl (fun ls hl => ?_)
          refine lv_goto (tgt := 11) hx hb dX6_answersOneByOne_53 (by decide) ?_
          exact ih11 (i + 1) locsi_ (by omega) (by omega) hS ls (lv_sub hl [0, 2, 3, 4] rfl)
        · refine lv_aload_n hx hb dX6_answersOneByOne_35 rfl (lv_at hl 3 rfl) ?_
          refine lv_aload hx hb dX6_answersOneByOne_36 (lv_at hl 0 rfl) ?_
          refine x_getN (C := RX1) (TT := TX1) (N := 6) (ci := 4) (v := .int (nI ((mKd E i)))) hx hb hts in_X6_answersOneByOne_RX1 hown hK ((hE i hi2).1) rfl 5 (by decide) (hev.2.2.2.2.1.2 ("Archeloft", 82, "Archeloft$Entity", "kindSet", "I") (by decide +kernel)) (fun _ h9 => h9) rfl dX6_answersOneByOne_38 ?_
          refine k_ip (k_V (As := [.int (nI ((mKd E i)))]) (rest := []) ⟨hx, hb, hml, hown, hts⟩ hev hS (c_X2_isAnsweredBy l hqo qb1 qb2 qb3 (iE.1 i)) (cwV 1 hts gX6_answersOneByOne_X2_isAnsweredBy rfl rfl rfl (by decide +kernel) ⟨Nat.le_of_ble_eq_true rfl, Nat.le_of_ble_eq_true rfl⟩) (x_recv hK hqo rfl) rfl hl.1 (Nat.le_of_ble_eq_true rfl) dX6_answersOneByOne_41 (Nat.le_of_ble_eq_true rfl) (Nat.le_of_ble_eq_true rfl)) hS hnt hlk (fun _ _ h _ => h.elim) (Nat.le_of_ble_eq_true rfl) (Nat.le_of_ble_eq_true rfl) (fun rq2_ H2 locs2 hP hz2 hS => ?_)
          refine W.widen (k := 0 + 1) (n := 0 + 6) (Nat.le_refl _) (Nat.le_refl _) ?_
          obtain ⟨eH, er3⟩ := hP
          have eH := eH.symm
          subst eH
          refine x_top (y := (bI ((ansQ Q9 j1 (mKd E i))))) (er3) ?_
          refine y_bif_eq hx hb (tgt := 50) dX6_answersOneByOne_44 (by decide) (fun c44 => ?_) (fun c44 => ?_)
          · have hl : lv_has ls 6 [(5, .ref ((ea b0 i))), (4, .int (nI i)), (3, .int (nI ((cnt (fun k => mAl E k && ansQ Q9 j1 (mKd E k)) (i + 1))))), (2, .ref ((zq.2.2 j1))), (0, .ref b0)] := by
              have e9 : (nI ((cnt (fun k => mAl E k && ansQ Q9 j1 (mKd E k)) i))) = (nI ((cnt (fun k => mAl E k && ansQ Q9 j1 (mKd E k)) (i + 1)))) := by rw [cnt_n (f := fun k => mAl E k && ansQ Q9 j1 (mKd E k)) (by show ¬ (mAl E i && ansQ Q9 j1 (mKd E i)) = true; rw [c44, Bool.and_false]; exact fun z => nomatch z)]
              rw [← e9]; exact hl
            refine lv_iinc (v := (nI (i + 1))) (lv' := [(4, .int (nI (i + 1))), (5, .ref ((ea b0 i))), (3, .int (nI ((cnt (fun k => mAl E k && ansQ Q9 j1 (mKd E k)) (i + 1))))), (2, .ref ((zq.2.2 j1))), (0, .ref b0)]) hx hb dX6_answersOneByOne_50 hl (k := 1) rfl (nI_inc _) (by decide) rfl (fun ls hl => ?_)
            refine lv_goto (tgt := 11) hx hb dX6_answersOneByOne_53 (by decide) ?_
            exact ih11 (i + 1) locs2 (by omega) (by omega) hS ls (lv_sub hl [0, 2, 3, 4] rfl)
          · refine lv_iinc (v := (nI ((cnt (fun k => mAl E k && ansQ Q9 j1 (mKd E k)) i) + 1))) (lv' := [(3, .int (nI ((cnt (fun k => mAl E k && ansQ Q9 j1 (mKd E k)) i) + 1))), (5, .ref ((ea b0 i))), (4, .int (nI i)), (2, .ref ((zq.2.2 j1))), (0, .ref b0)]) hx hb dX6_answersOneByOne_47 hl (k := 2) rfl (nI_inc _) (by decide) rfl (fun ls hl => ?_)
            have hl : lv_has ls 6 [(3, .int (nI ((cnt (fun k => mAl E k && ansQ Q9 j1 (mKd E k)) (i + 1))))), (5, .ref ((ea b0 i))), (4, .int (nI i)), (2, .ref ((zq.2.2 j1))), (0, .ref b0)] := by
              have e9 : (nI ((cnt (fun k => mAl E k && ansQ Q9 j1 (mKd E k)) i) + 1)) = (nI ((cnt (fun k => mAl E k && ansQ Q9 j1 (mKd E k)) (i + 1)))) := by rw [cnt_t (f := fun k => mAl E k && ansQ Q9 j1 (mKd E k)) (by show (mAl E i && ansQ Q9 j1 (mKd E i)) = true; rw [c32, c44]; rfl)]
              rw [← e9]; exact hl
            refine lv_iinc (v := (nI (i + 1))) (lv' := [(4, .int (nI (i + 1))), (3, .int (nI ((cnt (fun k => mAl E k && ansQ Q9 j1 (mKd E k)) (i + 1))))), (5, .ref ((ea b0 i))), (2, .ref ((zq.2.2 j1))), (0, .ref b0)]) hx hb dX6_answersOneByOne_50 hl (k := 2) rfl (nI_inc _) (by decide) rfl (fun ls hl => ?_)
            refine lv_goto (tgt := 11) hx hb dX6_answersOneByOne_53 (by decide) ?_
            exact ih11 (i + 1) locs2 (by omega) (by omega) hS ls (lv_sub hl [0, 1, 3, 4] rfl)
  exact loop11 ((32 - 0) + 1) 0 locs1 (Nat.lt_succ_self _) (Nat.zero_le _) hS ls (lv_sub hl [0, 1, 2, 3] rfl)
set_option maxRecDepth 100000 in
theorem in_X6_answersOf_RJx4a65c : ∀ w ∈ wsJx4a65c0, w ∈ wsX6_answersOf := by decide +kernel
set_option maxRecDepth 100000 in
theorem in_X6_answersOf_RX3 : ∀ w ∈ wsX30, w ∈ wsX6_answersOf := by decide +kernel
set_option maxRecDepth 100000 in
theorem in_X6_answersOf_RX6 : ∀ w ∈ wsX60, w ∈ wsX6_answersOf := by decide +kernel
set_option maxHeartbeats 4000000 in
set_option maxRecDepth 100000 in
theorem c_X6_answersOf (l : Launch) {D : va_G} {T : Nat → ClassId} {dE mi : Nat} (hst : l.stackTraces = false) {A : Nat → Prop} {H : Heap} {b0 : Nat} {tg : Nat → Nat} {wo : Option Nat} {tk : Int32} (hX : PX D T b0 H wo tk) {R : mR} {y : mLy} (hR : RepR D T dE b0 tg H R y) {Q9 : mQ} {zq : mLz} (hQ : RepQ D T dE b0 tg H Q9 zq) (iQ : InvQ Q9) (hs64 : ∀ r, r < rN R → rS R r < 64) {E : mE} (hE : PE D T b0 H E) (iE : InvE E) (iR : InvR E R) (hAn : ∀ q : Nat, H.size ≤ q → A q) {j1 : Nat} (hj1 : j1 < Q9.1) : vx_Met l yX6_answersOf wsX6_answersOf (rmL 8 5 83) (PcE D T dE mi A H [.ref b0, .ref ((zq.2.2 j1))]) (QQ A (fun r H1 => r = some H.size ∧ ∃ arr cap, AL D T dE H1 H.size arr cap (aN Q9 R j1) (fun p => ea b0 ((aP Q9 R j1 p).getD 0)) ∧ okF cap ∧ (0 < cap → H.size ≤ arr) ∧ KP H H1)) (XX A (XN)) 5 83 A := by
  refine entry (cc := cX6_answersOf) (maxL := 6) (ret := (some (.object "java/util/ArrayList"))) (by decide) rfl (Nat.le_of_ble_eq_true rfl) ?_
  intro p e s m args below meth c hx hb hrt9 hml hown hts hlk hnt hnm hev hS ls hl
  have hown : s.vm.findClass RX6 = some m.cls := hown
  have hK := hev.1
  have hl : lv_has ls 6 [(0, .ref b0), (1, .ref ((zq.2.2 j1)))] := hl
  have hcap9 := hR.1.1.2.1
  have hcap8 := hR.1.1.2.2.1
  obtain ⟨qb1, qb2, qb3⟩ := iQ.2 j1 hj1
  have hqo := (hQ.2 j1 hj1).1
  have hn32 := aN_le iE iR (Q := Q9) j1
  refine x_new (C := RJx4a65c) (TT := TJx4a65c) (N := 3) (ci := 2) (fs := [.int 0, .null, .int 0]) hx hb hts in_X6_answersOf_RJx4a65c tyJx4a65c tyJx4a65c_ok hown (hts (.classLink RX6 15 RJx4a65c) (by decide +kernel)) (hts (.instantiable RJx4a65c 3) (by decide +kernel)) (hts (.initialized RJx4a65c) (by decide +kernel)) hK hS rfl (by decide) (Nat.le_of_ble_eq_true rfl) (Nat.le_of_ble_eq_true rfl) dX6_answersOf_0 (fun H1 ho1 hz1 hq1 hS => ?_)
  have k1 : KP H H1 := ⟨by omega, hq1⟩
  refine lv_dup hx hb dX6_answersOf_3 rfl ?_
  refine k_vp (k_I (As := []) (rest := [.ref H.size]) ⟨hx, hb, hml, hown, hts⟩ hev hS (c_Jx4a65c_init_da8c8 l ho1 (hAn _ (Nat.le_refl _))) (cwI 0 hts gX6_answersOf_Jx4a65c_init_da8c8 rfl rfl rfl (hts (.initialized RJx4a65c) (by decide +kernel)) (hts (.methodLink RX6 17 yJx4a65c_init_da8c8) (by decide +kernel)) (hts (.instanceMethod yJx4a65c_init_da8c8) (by decide +kernel)) rfl (by decide +kernel) ⟨Nat.le_of_ble_eq_true rfl, Nat.le_of_ble_eq_true rfl⟩) rfl hl.1 (Nat.le_of_ble_eq_true rfl) dX6_answersOf_4 (Nat.le_of_ble_eq_true rfl) (Nat.le_of_ble_eq_true rfl)) hS hnt hlk (fun _ _ h _ => h.elim) (Nat.le_of_ble_eq_true rfl) (Nat.le_of_ble_eq_true rfl) (fun H2 locs2 hP hz2 hS => ?_)
  refine W.widen (k := 0 + 1) (n := 0 + 3) (Nat.le_refl _) (Nat.le_refl _) ?_
  obtain ⟨hl9, ez9, eq9⟩ := hP
  obtain ⟨d1, d2, d3⟩ := hev.dE hS
  have k2 : KP H H2 := ⟨by omega, fun q9 h9 => (eq9 q9 (by omega)).trans (hq1 q9 h9)⟩
  have hL0 := AL.new (T := T) (fun p => ea b0 ((aAt Q9 R j1 p 0).getD 0)) hl9 d1 (fun z => d3 (by rw [z]; exact hAn _ (Nat.le_refl _)))
  refine lv_astore_n (lv' := [(2, .ref H.size), (0, .ref b0), (1, .ref ((zq.2.2 j1)))]) hx hb dX6_answersOf_7 rfl hl (by decide) rfl (fun ls hl => ?_)
  refine W.widen (k := 1 + gC 0) (n := 3 + gS 0) (by decide) (by decide) ?_
  refine lv_iconst (v := nI 0) hx hb dX6_answersOf_8 (by decide) ?_
  refine lv_istore_n (lv' := [(3, .int (nI 0)), (2, .ref H.size), (0, .ref b0), (1, .ref ((zq.2.2 j1)))]) hx hb dX6_answersOf_9 rfl hl (by decide) rfl (fun ls hl => ?_)
  have loop10 : ∀ (n : Nat) (i : Nat) (arr cap : Nat) (Hi_ : Heap) (locsi_ : List Loc), rN R - i < n → (i ≤ rN R) → (AL D T dE Hi_ H.size arr cap (aTo Q9 R j1 i) (fun p => ea b0 ((aAt Q9 R j1 p i).getD 0))) → (okF cap) → (0 < cap → H.size ≤ arr) → (KP H Hi_) → (va_S A s.heap Hi_ locsi_) → ∀ (ls : Array Slot), lv_has ls 6 [(3, .int (nI i)), (2, .ref H.size), (1, .ref ((zq.2.2 j1))), (0, .ref b0)] → W p l e (rmL 8 5 83) s m args below meth c Hi_ locsi_ (1 + gC cap) (3 + gS cap) (vx_MQ below (QQ A (fun r H1 => r = some H.size ∧ ∃ arr cap, AL D T dE H1 H.size arr cap (aN Q9 R j1) (fun p => ea b0 ((aP Q9 R j1 p).getD 0)) ∧ okF cap ∧ (0 < cap → H.size ≤ arr) ∧ KP H H1)) (XX A (XN)) args s 5 83 A) (F0 m 10 ls []) := by
    intro n
    induction n with
    | zero => intro i arr cap Hi_ locsi_ hfuel; exact absurd hfuel (Nat.not_lt_zero _)
    | succ n ih10 =>
      intro i arr cap Hi_ locsi_ hfuel hi hFL hok har hkp hS ls hl
      have hX9 := hX.kp hkp
      have hR9 := hR.kp hkp
      have hqo9 := hqo.kept (hkp.2 _ hqo.lt)
      have hg9 := g_le hok
      refine lv_iload_n hx hb dX6_answersOf_10 rfl (lv_at hl 0 rfl) ?_
      refine lv_aload_n hx hb dX6_answersOf_11 rfl (lv_at hl 3 rfl) ?_
      refine x_get (C := RX6) (TT := TX6) (N := 6) (ci := 9) (v := .ref ((b0 + 2))) hx hb hts in_X6_answersOf_RX6 hown hK (hX9.1) rfl 1 (by decide) (hts (.fieldLink RX6 18 "Archeloft" "rowList" "Ljava/util/ArrayList;") (by decide +kernel)) (fun _ h9 => h9) rfl dX6_answersOf_12 ?_
      refine k_ip (k_V (As := []) (rest := [.int (nI i)]) ⟨hx, hb, hml, hown, hts⟩ hev hS (c_Jx4a65c_size_8abf5 l hR9.1.1) (cwV 0 hts gX6_answersOf_Jx4a65c_size_8abf5 rfl rfl rfl (by decide +kernel) ⟨Nat.le_of_ble_eq_true rfl, Nat.le_of_ble_eq_true rfl⟩) (x_recv hK ((hR9.1.1.rec).choose_spec) rfl) rfl hl.1 (Nat.le_of_ble_eq_true rfl) dX6_answersOf_15 (by show _ ≤ (5 : Nat); omega) (by show _ ≤ (83 : Nat); omega)) hS hnt hlk (fun _ _ h _ => h.elim) (by show _ ≤ (5 : Nat); omega) (by show _ ≤ (83 : Nat); omega) (fun rq3_ H3 locs3 hP hz3 hS => ?_)
      refine W.widen (k := 1 + gC cap) (n := 3 + gS cap) (Nat.le_refl _) (Nat.le_refl _) ?_
      obtain ⟨eH, er⟩ := hP
      have eH := eH.symm
      subst eH
      refine x_top (y := (nI ((rN R)))) (er) ?_
      refine y_icmp_ge hx hb (by omega) (by omega) (tgt := 92) dX6_answersOf_18 (by decide) (fun c18 => ?_) (fun c18 => ?_)
      · have ei : i = rN R := by omega
        refine lv_aload_n hx hb dX6_answersOf_92 rfl (lv_at hl 1 rfl) ?_
        exact r_q (r := some H.size) hx hb hrt9 (Or.inl ⟨_, rfl⟩) hlk hS (by omega) (by omega) dX6_answersOf_93 (⟨rfl, arr, cap, by rw [ei] at hFL; exact hFL, hok, har, hkp⟩)
      · have hi2 : i < rN R := by omega
        obtain ⟨hro, hrt, hrl⟩ := hR9.2 i hi2
        have hsi := hs64 i hi2
        refine lv_aload_n hx hb dX6_answersOf_21 rfl (lv_at hl 3 rfl) ?_
        refine x_get (C := RX6) (TT := TX6) (N := 6) (ci := 9) (v := .ref ((b0 + 2))) hx hb hts in_X6_answersOf_RX6 hown hK (hX9.1) rfl 1 (by decide) (hts (.fieldLink RX6 18 "Archeloft" "rowList" "Ljava/util/ArrayList;") (by decide +kernel)) (fun _ h9 => h9) rfl dX6_answersOf_22 ?_
        refine lv_iload_n hx hb dX6_answersOf_25 rfl (lv_at hl 0 rfl) ?_
        refine k_qp (k_V (As := [.int (nI i)]) (rest := []) ⟨hx, hb, hml, hown, hts⟩ hev hS (c_Jx4a65c_get_915e3 l hR9.1.1 (i := i) (hi2)) (cwV 1 hts gX6_answersOf_Jx4a65c_get_915e3 rfl rfl rfl (by decide +kernel) ⟨Nat.le_of_ble_eq_true rfl, Nat.le_of_ble_eq_true rfl⟩) (x_recv hK ((hR9.1.1.rec).choose_spec) rfl) rfl hl.1 (Nat.le_of_ble_eq_true rfl) dX6_answersOf_26 (by show _ ≤ (5 : Nat); omega) (by show _ ≤ (83 : Nat); omega)) hS hnt hlk (fun _ _ h _ => h.elim) (by show _ ≤ (5 : Nat); omega) (by show _ ≤ (83 : Nat); omega) (fun rq4_ H4 locs4 hP hz4 hS => ?_)
        refine W.widen (k := 1 + gC cap) (n := 3 + gS cap) (Nat.le_refl _) (Nat.le_refl _) ?_
        obtain ⟨eH, er⟩ := hP
        have eH := eH.symm
        subst eH
        refine x_tov (y := .ref ((yW y i))) (by rw [er]; rfl) ?_
        refine va_castE hx hb hown (hts (.classLink RX6 55 "Archeloft$Row") (by decide +kernel)) (x_recv hK hro rfl) dX6_answersOf_29 ?_
        refine lv_astore (lv' := [(4, .ref ((yW y i))), (3, .int (nI i)), (2, .ref H.size), (1, .ref ((zq.2.2 j1))), (0, .ref b0)]) hx hb dX6_answersOf_32 hl (by decide) rfl (fun ls hl => ?_)
        refine lv_aload_n hx hb dX6_answersOf_34 rfl (lv_at hl 3 rfl) ?_
        refine lv_aload hx hb dX6_answersOf_35 (lv_at hl 0 rfl) ?_
        refine x_getN (C := RX3) (TT := TX3) (N := 2) (ci := 6) (v := .int (nI ((rS R i)))) hx hb hts in_X6_answersOf_RX3 hown hK (hro) rfl 0 (by decide) (hev.2.2.2.2.1.2 ("Archeloft", 142, "Archeloft$Row", "kindSet", "I") (by decide +kernel)) (fun _ h9 => h9) rfl dX6_answersOf_37 ?_
        refine k_ip (k_V (As := [.int (nI ((rS R i)))]) (rest := []) ⟨hx, hb, hml, hown, hts⟩ hev hS (c_X2_isAnsweredBy l hqo9 qb1 qb2 qb3 (hsi)) (cwV 1 hts gX6_answersOf_X2_isAnsweredBy rfl rfl rfl (by decide +kernel) ⟨Nat.le_of_ble_eq_true rfl, Nat.le_of_ble_eq_true rfl⟩) (x_recv hK hqo9 rfl) rfl hl.1 (Nat.le_of_ble_eq_true rfl) dX6_answersOf_40 (by show _ ≤ (5 : Nat); omega) (by show _ ≤ (83 : Nat); omega)) hS hnt hlk (fun _ _ h _ => h.elim) (by show _ ≤ (5 : Nat); omega) (by show _ ≤ (83 : Nat); omega) (fun rq5_ H5 locs5 hP hz5 hS => ?_)
        refine W.widen (k := 1 + gC cap) (n := 3 + gS cap) (Nat.le_refl _) (Nat.le_refl _) ?_
        obtain ⟨eH, er3⟩ := hP
        have eH := eH.symm
        subst eH
        refine x_top (y := (bI ((ansQ Q9 j1 (rS R i))))) (er3) ?_
        refine y_bif_eq hx hb (tgt := 86) dX6_answersOf_43 (by decide) (fun c43 => ?_) (fun c43 => ?_)
        · have hFL6 : AL D T dE Hi_ H.size arr cap (aTo Q9 R j1 (i + 1)) (fun p => ea b0 ((aAt Q9 R j1 p (i + 1)).getD 0)) := by
            rw [aTo_f c43]
            exact hFL.cong (fun p hp => by rw [aG_skip c43 p (by rw [aTo_f c43]; exact hp)])
          refine lv_iinc (v := (nI (i + 1))) (lv' := [(3, .int (nI (i + 1))), (4, .ref ((yW y i))), (2, .ref H.size), (1, .ref ((zq.2.2 j1))), (0, .ref b0)]) hx hb dX6_answersOf_86 hl (k := 1) rfl (nI_inc _) (by decide) rfl (fun ls hl => ?_)
          refine lv_goto (tgt := 10) hx hb dX6_answersOf_89 (by decide) ?_
          exact ih10 (i + 1) arr cap Hi_ locs5 (by omega) (by omega) hFL6 hok har hkp hS ls (lv_sub hl [0, 2, 3, 4] rfl)
        · have hto := aTo_t (Q := Q9) (R := R) (q := j1) (r := i) c43
          have hFLg : AL D T dE Hi_ H.size arr cap ((aTo Q9 R j1 i) + 0) (fun p => ea b0 (aG Q9 R j1 i p)) := hFL.cong (fun p hp => by rw [aG_first p hp])
          refine lv_iconst (v := nI 0) hx hb dX6_answersOf_46 (by decide) ?_
          refine lv_istore (lv' := [(5, .int (nI 0)), (4, .ref ((yW y i))), (3, .int (nI i)), (2, .ref H.size), (1, .ref ((zq.2.2 j1))), (0, .ref b0)]) hx hb dX6_answersOf_47 hl (by decide) rfl (fun ls hl => ?_)
          have loop49 : ∀ (n : Nat) (j : Nat) (arr2 cap2 : Nat) (Hj_ : Heap) (locsj_ : List Loc), rZ R i - j < n → (j ≤ rZ R i) → (AL D T dE Hj_ H.size arr2 cap2 ((aTo Q9 R j1 i) + j) (fun p => ea b0 (aG Q9 R j1 i p))) → (okF cap2) → (0 < cap2 → H.size ≤ arr2) → (KP H Hj_) → (va_S A s.heap Hj_ locsj_) → ∀ (ls : Array Slot), lv_has ls 6 [(5, .int (nI j)), (4, .ref ((yW y i))), (3, .int (nI i)), (2, .ref H.size), (1, .ref ((zq.2.2 j1))), (0, .ref b0)] → W p l e (rmL 8 5 83) s m args below meth c Hj_ locsj_ (1 + gC cap2) (3 + gS cap2) (vx_MQ below (QQ A (fun r H1 => r = some H.size ∧ ∃ arr cap, AL D T dE H1 H.size arr cap (aN Q9 R j1) (fun p => ea b0 ((aP Q9 R j1 p).getD 0)) ∧ okF cap ∧ (0 < cap → H.size ≤ arr) ∧ KP H H1)) (XX A (XN)) args s 5 83 A) (F0 m 49 ls []) := by
            intro n
            induction n with
            | zero => intro j arr2 cap2 Hj_ locsj_ hfuel; exact absurd hfuel (Nat.not_lt_zero _)
            | succ n ih49 =>
              intro j arr2 cap2 Hj_ locsj_ hfuel hj hFL2 hok2 har2 hkp2 hS ls hl
              have hX8 := hX.kp hkp2
              have hR8 := hR.kp hkp2
              have hE8 := hE.kp hkp2
              have hqo8 := hqo.kept (hkp2.2 _ hqo.lt)
              have hg8 := g_le hok2
              obtain ⟨hro8, hrt8, hrl8⟩ := hR8.2 i hi2
              have hcz := hrl8.1.2.1
              have hcz2 := hrl8.1.2.2.1
              refine lv_iload hx hb dX6_answersOf_49 (lv_at hl 0 rfl) ?_
              refine lv_aload hx hb dX6_answersOf_51 (lv_at hl 1 rfl) ?_
              refine x_getN (C := RX3) (TT := TX3) (N := 2) (ci := 6) (v := .ref ((yL y i))) hx hb hts in_X6_answersOf_RX3 hown hK (hro8) rfl 1 (by decide) (hev.2.2.2.2.1.2 ("Archeloft", 54, "Archeloft$Row", "members", "Ljava/util/ArrayList;") (by decide +kernel)) (fun _ h9 => h9) rfl dX6_answersOf_53 ?_
              refine k_ip (k_V (As := []) (rest := [.int (nI j)]) ⟨hx, hb, hml, hown, hts⟩ hev hS (c_Jx4a65c_size_8abf5 l hrl8.1) (cwV 0 hts gX6_answersOf_Jx4a65c_size_8abf5 rfl rfl rfl (by decide +kernel) ⟨Nat.le_of_ble_eq_true rfl, Nat.le_of_ble_eq_true rfl⟩) (x_recv hK ((hrl8.1.rec).choose_spec) rfl) rfl hl.1 (Nat.le_of_ble_eq_true rfl) dX6_answersOf_56 (by show _ ≤ (5 : Nat); omega) (by show _ ≤ (83 : Nat); omega)) hS hnt hlk (fun _ _ h _ => h.elim) (by show _ ≤ (5 : Nat); omega) (by show _ ≤ (83 : Nat); omega) (fun rq6_ H6 locs6 hP hz6 hS => ?_)
              refine W.widen (k := 1 + gC cap2) (n := 3 + gS cap2) (Nat.le_refl _) (Nat.le_refl _) ?_
              obtain ⟨eH, er⟩ := hP
              have eH := eH.symm
              subst eH
              refine x_top (y := (nI ((rZ R i)))) (er) ?_
              refine y_icmp_ge hx hb (by omega) (by omega) (tgt := 86) dX6_answersOf_59 (by decide) (fun c59 => ?_) (fun c59 => ?_)
              · have ej : j = rZ R i := by omega
                have hFL6 : AL D T dE Hj_ H.size arr2 cap2 (aTo Q9 R j1 (i + 1)) (fun p => ea b0 ((aAt Q9 R j1 p (i + 1)).getD 0)) := by
                  rw [hto]
                  rw [ej] at hFL2
                  exact hFL2.cong (fun p hp => by rw [aG_next c43 p (by rw [hto]; exact hp)])
                refine lv_iinc (v := (nI (i + 1))) (lv' := [(3, .int (nI (i + 1))), (5, .int (nI j)), (4, .ref ((yW y i))), (2, .ref H.size), (1, .ref ((zq.2.2 j1))), (0, .ref b0)]) hx hb dX6_answersOf_86 hl (k := 2) rfl (nI_inc _) (by decide) rfl (fun ls hl => ?_)
                refine lv_goto (tgt := 10) hx hb dX6_answersOf_89 (by decide) ?_
                exact ih10 (i + 1) arr2 cap2 Hj_ locs6 (by omega) (by omega) hFL6 hok2 har2 hkp2 hS ls (lv_sub hl [0, 3, 4, 5] rfl)
              · have hj2 : j < rZ R i := by omega
                have hm32 : rM R i j < 32 := iE.2.1 _ (iR.2.2.1 i j hi2 hj2).1
                have hle := aTo_le2 (Q := Q9) (R := R) (q := j1) (show i + 1 ≤ rN R by omega)
                have hnn : aN Q9 R j1 = (aTo Q9 R j1 (rN R)) := rfl
                have hlt33 : ((aTo Q9 R j1 i) + j) < 33 := by omega
                have hg32 : ∀ p, p < ((aTo Q9 R j1 i) + j) → aG Q9 R j1 i p < 32 := fun p hp => by
                  unfold aG
                  by_cases c : p < (aTo Q9 R j1 i)
                  · rw [if_pos c]
                    obtain ⟨i3, a1, a2, a3, a4, a5⟩ := aAt_lt i c
                    rw [a5]; exact iE.2.1 _ (iR.2.2.1 i3 _ (by omega) a4).1
                  · rw [if_neg c]; exact iE.2.1 _ (iR.2.2.1 i _ hi2 (by omega)).1
                obtain ⟨ok7, gc7, gs7, cp7⟩ := g_add hok2 hFL2.2.1 hlt33
                have hg7 := g_le ok7
                refine lv_aload_n hx hb dX6_answersOf_62 rfl (lv_at hl 3 rfl) ?_
                refine lv_aload hx hb dX6_answersOf_63 (lv_at hl 1 rfl) ?_
                refine x_getN (C := RX3) (TT := TX3) (N := 2) (ci := 6) (v := .ref ((yL y i))) hx hb hts in_X6_answersOf_RX3 hown hK (hro8) rfl 1 (by decide) (hev.2.2.2.2.1.2 ("Archeloft", 54, "Archeloft$Row", "members", "Ljava/util/ArrayList;") (by decide +kernel)) (fun _ h9 => h9) rfl dX6_answersOf_65 ?_
                refine lv_iload hx hb dX6_answersOf_68 (lv_at hl 0 rfl) ?_
                refine k_qp (k_V (As := [.int (nI j)]) (rest := [.ref H.size]) ⟨hx, hb, hml, hown, hts⟩ hev hS (c_Jx4a65c_get_915e3 l hrl8.1 (i := j) (hj2)) (cwV 1 hts gX6_answersOf_Jx4a65c_get_915e3 rfl rfl rfl (by decide +kernel) ⟨Nat.le_of_ble_eq_true rfl, Nat.le_of_ble_eq_true rfl⟩) (x_recv hK ((hrl8.1.rec).choose_spec) rfl) rfl hl.1 (Nat.le_of_ble_eq_true rfl) dX6_answersOf_70 (by show _ ≤ (5 : Nat); omega) (by show _ ≤ (83 : Nat); omega)) hS hnt hlk (fun _ _ h _ => h.elim) (by show _ ≤ (5 : Nat); omega) (by show _ ≤ (83 : Nat); omega) (fun rq7_ H7 locs7 hP hz7 hS => ?_)
                refine W.widen (k := 1 + gC cap2) (n := 3 + gS cap2) (Nat.le_refl _) (Nat.le_refl _) ?_
                obtain ⟨eH, er⟩ := hP
                have eH := eH.symm
                subst eH
                refine x_tov (y := .ref ((ea b0 (rM R i j)))) (by rw [er]; rfl) ?_
                refine va_castE hx hb hown (hts (.classLink RX6 9 "Archeloft$Entity") (by decide +kernel)) (x_recv hK (hE8 _ hm32).1 rfl) dX6_answersOf_73 ?_
                refine k_ip (k_V (As := [.ref ((ea b0 (rM R i j)))]) (rest := []) ⟨hx, hb, hml, hown, hts⟩ hev hS (c_addL l hFL2 hok2.k.lt (hAn _ (Nat.le_refl _)) (fun h0 => hAn _ (har2 h0)) (fun q9 h9 => hAn q9 (Nat.le_trans hkp2.1 h9)) (ci := 4) (rr := (RX1, TX1, 6)) (fun x hx2 => ⟨Nat.ne_of_lt (hE _ (hg32 x hx2)).1.lt, _, (hE8 _ (hg32 x hx2)).1⟩) rfl (by decide +kernel) (hE8 _ hm32).1 (Nat.ne_of_lt (hE _ hm32).1.lt)) (cwV 1 hts gX6_answersOf_Jx4a65c_add_9ea2d rfl rfl rfl (by decide +kernel) ⟨Nat.le_of_ble_eq_true rfl, Nat.le_of_ble_eq_true rfl⟩) (x_recv hK ((hFL2.rec).choose_spec) rfl) rfl hl.1 (Nat.le_of_ble_eq_true rfl) dX6_answersOf_76 (by show _ ≤ (5 : Nat); omega) (by show _ ≤ (83 : Nat); omega)) hS hnt hlk (fun _ _ h _ => h.elim) (by show _ ≤ (5 : Nat); omega) (by show _ ≤ (83 : Nat); omega) (fun rq8_ H8 locs8 hP hz8 hS => ?_)
                obtain ⟨-, hL7, hz7, hq7⟩ := hP
                refine W.widen (k := 1 + gC (nCap cap2 ((aTo Q9 R j1 i) + j))) (n := 3 + gS (nCap cap2 ((aTo Q9 R j1 i) + j))) (by omega) (by omega) ?_
                have hFL7 : AL D T dE H8 H.size (nArr Hj_ arr2 cap2 ((aTo Q9 R j1 i) + j)) (nCap cap2 ((aTo Q9 R j1 i) + j)) ((aTo Q9 R j1 i) + (j + 1)) (fun p => ea b0 (aG Q9 R j1 i p)) := hL7.cong aG_add
                have hkp7 : KP H H8 := ⟨by have := hkp2.1; omega, fun q9 h9 => (hq7 q9 (by have := hkp2.1; omega) (by omega) (fun h0 => by have := har2 h0; omega)).trans (hkp2.2 q9 h9)⟩
                have har7 : 0 < nCap cap2 ((aTo Q9 R j1 i) + j) → H.size ≤ nArr Hj_ arr2 cap2 ((aTo Q9 R j1 i) + j) := fun _ => nArr_ge har2 hkp2.1
                refine lv_pop hx hb dX6_answersOf_79 rfl ?_
                refine lv_iinc (v := (nI (j + 1))) (lv' := [(5, .int (nI (j + 1))), (4, .ref ((yW y i))), (3, .int (nI i)), (2, .ref H.size), (1, .ref ((zq.2.2 j1))), (0, .ref b0)]) hx hb dX6_answersOf_80 hl (k := 0) rfl (nI_inc _) (by decide) rfl (fun ls hl => ?_)
                refine lv_goto (tgt := 49) hx hb dX6_answersOf_83 (by decide) ?_
                exact ih49 (j + 1) (nArr Hj_ arr2 cap2 ((aTo Q9 R j1 i) + j)) (nCap cap2 ((aTo Q9 R j1 i) + j)) H8 locs8 (by omega) (by omega) hFL7 ok7 har7 hkp7 hS ls (lv_sub hl [0, 1, 2, 3, 4, 5] rfl)
          exact loop49 ((rZ R i - 0) + 1) 0 arr cap Hi_ locs5 (Nat.lt_succ_self _) (Nat.zero_le _) hFLg hok har hkp hS ls (lv_sub hl [0, 1, 2, 3, 4, 5] rfl)
  exact loop10 ((rN R - 0) + 1) 0 dE 0 H2 locs2 (Nat.lt_succ_self _) (Nat.zero_le _) hL0 (Or.inl rfl) (fun h0 => absurd h0 (Nat.lt_irrefl 0)) k2 hS ls (lv_sub hl [0, 1, 3, 2] rfl)
