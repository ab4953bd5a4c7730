/-- records in a list: a new one at the end -/
theorem Rec.ad {D : va_G} {T : Nat → ClassId} {dE b c ct ci a arr cap n : Nat} {f : Nat → Nat} {A : Nat → Prop} {tg : Nat → Nat} {H H1 H2 : Heap} {vals : Nat → List Value} {vs : List Value} (hT : TG A b H tg) (hL : LSt D T dE tg c H a arr cap n f) (hv : ∀ i, i < n → oc D H (f i) ci (vals i) ∧ tg (f i) = ct) (hc : c ≠ 0) (hct : ct ≠ 0 ∧ ct ≠ c ∧ ct ≠ c + 1) (hn : n < 64)
    (ho : oc D H1 H.size ci vs) (hz : H1.size = H.size + 1) (hk : ∀ q : Nat, q < H.size → H1[q]? = H[q]?)
    (h1 : AL D T dE H2 a (nArr H1 arr cap n) (nCap cap n) (n + 1) (nu f n H.size)) (hz2 : H2.size = H1.size + dC cap n) (hq : ∀ q : Nat, q < H1.size → q ≠ a → (0 < cap → q ≠ arr) → H2[q]? = H1[q]?) :
    ∃ (tg1 : Nat → Nat) (arr1 cap1 : Nat), TG A b H2 tg1 ∧ TX tg H tg1 ∧ LSt D T dE tg1 c H2 a arr1 cap1 (n + 1) (nu f n H.size) ∧ (∀ i, i < n + 1 → oc D H2 (nu f n H.size i) ci (if i = n then vs else vals i) ∧ tg1 (nu f n H.size i) = ct) ∧ FR tg (fun t => t = c ∨ t = c + 1) H H2 := by
  obtain ⟨t1, x1⟩ := hT.nw (c := ct) (H1 := H1) (Nat.le_refl H.size) (by omega)
  have hL1 := hL.kept x1 (FR.kp (S := fun _ => False) ⟨by omega, hk⟩) id id id
  obtain ⟨tg3, arr1, cap1, t3, x3, l3, f3⟩ := hL1.ad t1 hc hn h1 hz2 hq
  have w1 : nu tg H.size ct H.size = ct := nu_s
  refine ⟨tg3, arr1, cap1, t3, x1.tr x3 (by omega), l3, fun i hi => ?_, by have := f3.1; omega, fun q q1 q2 => (f3.2 q (by omega) (by rw [x1 q q1]; exact q2)).trans (hk q q1)⟩
  by_cases e : i = n
  · subst e
    rw [nu_s, if_pos rfl]
    exact ⟨ocF ho f3 w1 (by omega), (x3 _ (by omega)).trans w1⟩
  · rw [nu_n e, if_neg e]
    obtain ⟨a1, a2⟩ := hv i (by omega)
    have hlt := a1.lt
    exact ⟨(a1.kept (hk _ hlt)).kept (f3.2 _ (by omega) (by rw [x1 _ hlt, a2]; omega)), (x3 _ (by omega)).trans ((x1 _ hlt).trans a2)⟩
theorem que_1 {M : mSt} {x y z : Int32} (h : isS x = false ∨ isS y = false ∨ isS z = false) : oQuestion M x y z = oErr M 1 := if_pos h
theorem que_2 {M : mSt} {x y z : Int32} (h : isS x = true) (h2 : isS y = true) (h3 : isS z = true) (h4 : (sQ M).1 = 8) : oQuestion M x y z = oErr M 2 := (if_neg (fun q => by rw [h, h2, h3] at q; rcases q with q | q | q <;> cases q)).trans (if_pos h4)
theorem que_0 {M : mSt} {x y z : Int32} (h : isS x = true) (h2 : isS y = true) (h3 : isS z = true) (h4 : ¬ (sQ M).1 = 8) : oQuestion M x y z = (0, nI (sQ M).1, wQ M ((sQ M).1 + 1, nu (sQ M).2.1 (sQ M).1 (ix x), nu (sQ M).2.2.1 (sQ M).1 (ix y), nu (sQ M).2.2.2 (sQ M).1 (ix z))) := (if_neg (fun q => by rw [h, h2, h3] at q; rcases q with q | q | q <;> cases q)).trans (if_neg h4)
set_option maxRecDepth 100000 in
theorem ta_X6_questionNumbered_217 : ∀ w ∈ (vx_atS RX6 217 "java/lang/IndexOutOfBoundsException" ["java/lang/RuntimeException", "java/lang/Exception"]).filter goodWord, w ∈ wsX6_questionNumbered := by decide +kernel
set_option maxRecDepth 100000 in
theorem in_X6_questionNumbered_RX6 : ∀ w ∈ wsX60, w ∈ wsX6_questionNumbered := by decide +kernel
set_option maxHeartbeats 4000000 in
set_option maxRecDepth 100000 in
theorem c_X6_questionNumbered (l : Launch) {D : va_G} {T : Nat → ClassId} {dE mi : Nat} (hst : l.stackTraces = false) {A : Nat → Prop} {H : Heap} {b0 : Nat} {tg : Nat → Nat} {wo : Option Nat} {tk : Int32} (hX : PX D T b0 H wo tk) {Q9 : mQ} {zq : mLz} (hQ : RepQ D T dE b0 tg H Q9 zq) (x : Int32) : vx_Met l yX6_questionNumbered wsX6_questionNumbered (rmL 6 1 6) (PcE D T dE mi A H [.ref b0, .int x]) (QQ A (fun r H1 => H1 = H ∧ ∃ j, x = nI j ∧ j < Q9.1 ∧ r = some (zq.2.2 j))) (XX A (XE H (fun E9 => E9 = "java/lang/IndexOutOfBoundsException" ∧ inB x Q9.1 = false))) 1 6 A := by
  refine entry (cc := cX6_questionNumbered) (maxL := 2) (ret := (some (.object "Archeloft$Question"))) (by decide) rfl (Nat.le_of_ble_eq_true rfl) ?_
  intro p e s m args below meth c hx hb hrt9 hml hown hts hlk hnt hnm hev hS ls hl
  have hown : s.vm.findClass RX6 = some m.cls := hown
  have hK := hev.1
  have hl : lv_has ls 2 [(0, .ref b0), (1, .int x)] := hl
  have hcap9 := hQ.1.1.2.1
  have hcap8 := hQ.1.1.2.2.1
  refine lv_iload_n hx hb dX6_questionNumbered_0 rfl (lv_at hl 1 rfl) ?_
  refine lv_if_lt (tgt := 15) hx hb dX6_questionNumbered_1 (by decide) (fun c1 => ?_) (fun c1 => ?_)
  · exact k_thrW (cls := "java/lang/IndexOutOfBoundsException") (text := "there is no such question") (ik := 213) (is := 260) (ic := 217) hx hb hst hown hev hS (by decide +kernel) (hts (.classLink RX6 213 "java/lang/IndexOutOfBoundsException") (by decide +kernel)) (hts (.initialized "java/lang/IndexOutOfBoundsException") (by decide +kernel)) (by decide +kernel) (by decide +kernel) (fun w h => hts w (ta_X6_questionNumbered_217 w h)) (by decide +kernel) (by decide +kernel) (hl.1.trans hml.symm) dX6_questionNumbered_15 dX6_questionNumbered_18 dX6_questionNumbered_19 dX6_questionNumbered_22 dX6_questionNumbered_25 hnt (Nat.le_of_ble_eq_true rfl) (Nat.le_of_ble_eq_true rfl) (Nat.le_of_ble_eq_true rfl) (Nat.le_of_ble_eq_true rfl) hlk ((fun H1 h1 h2 => ⟨⟨rfl, inB_neg c1⟩, h1, h2⟩)) (Nat.le_of_ble_eq_true rfl) (Nat.le_of_ble_eq_true rfl)
  · refine lv_iload_n hx hb dX6_questionNumbered_4 rfl (lv_at hl 1 rfl) ?_
    refine lv_aload_n hx hb dX6_questionNumbered_5 rfl (lv_at hl 0 rfl) ?_
    refine x_get (C := RX6) (TT := TX6) (N := 6) (ci := 9) (v := .ref ((b0 + 3))) hx hb hts in_X6_questionNumbered_RX6 hown hK (hX.1) rfl 2 (by decide) (hts (.fieldLink RX6 22 "Archeloft" "questionList" "Ljava/util/ArrayList;") (by decide +kernel)) (fun _ h9 => h9) rfl dX6_questionNumbered_6 ?_
    refine k_ip (k_V (As := []) (rest := [.int x]) ⟨hx, hb, hml, hown, hts⟩ hev hS (c_Jx4a65c_size_8abf5 l hQ.1.1) (cwV 0 hts gX6_questionNumbered_Jx4a65c_size_8abf5 rfl rfl rfl (by decide +kernel) ⟨Nat.le_of_ble_eq_true rfl, Nat.le_of_ble_eq_true rfl⟩) (x_recv hK ((hQ.1.1.rec).choose_spec) rfl) rfl hl.1 (Nat.le_of_ble_eq_true rfl) dX6_questionNumbered_9 (Nat.le_of_ble_eq_true rfl) (Nat.le_of_ble_eq_true rfl)) hS hnt hlk (fun _ _ h _ => h.elim) (Nat.le_of_ble_eq_true rfl) (Nat.le_of_ble_eq_true rfl) (fun rq1_ H1 locs1 hP hz1 hS => ?_)
    refine W.widen (k := 0) (n := 0) (Nat.le_refl _) (Nat.le_refl _) ?_
    obtain ⟨eH, er⟩ := hP
    have eH := eH.symm
    subst eH
    refine x_top (y := (nI Q9.1)) (er) ?_
    refine lv_icmp_lt (tgt := 26) hx hb dX6_questionNumbered_12 (by decide) (fun c12 => ?_) (fun c12 => ?_)
    · have hin : inB x Q9.1 = true := decide_eq_true ⟨i32_nlt c1, c12⟩
      obtain ⟨j1, hj1, hxj⟩ := inB_of (by omega) hin
      have hl : lv_has ls 2 [(0, .ref b0), (1, .int (nI j1))] := by
        have e9 : x = (nI j1) := hxj
        rw [← e9]; exact hl
      refine lv_aload_n hx hb dX6_questionNumbered_26 rfl (lv_at hl 0 rfl) ?_
      refine x_get (C := RX6) (TT := TX6) (N := 6) (ci := 9) (v := .ref ((b0 + 3))) hx hb hts in_X6_questionNumbered_RX6 hown hK (hX.1) rfl 2 (by decide) (hts (.fieldLink RX6 22 "Archeloft" "questionList" "Ljava/util/ArrayList;") (by decide +kernel)) (fun _ h9 => h9) rfl dX6_questionNumbered_27 ?_
      refine lv_iload_n hx hb dX6_questionNumbered_30 rfl (lv_at hl 1 rfl) ?_
      refine k_qp (k_V (As := [.int (nI j1)]) (rest := []) ⟨hx, hb, hml, hown, hts⟩ hev hS (c_Jx4a65c_get_915e3 l hQ.1.1 (i := j1) (hj1)) (cwV 1 hts gX6_questionNumbered_Jx4a65c_get_915e3 rfl rfl rfl (by decide +kernel) ⟨Nat.le_of_ble_eq_true rfl, Nat.le_of_ble_eq_true rfl⟩) (x_recv hK ((hQ.1.1.rec).choose_spec) rfl) rfl hl.1 (Nat.le_of_ble_eq_true rfl) dX6_questionNumbered_31 (Nat.le_of_ble_eq_true rfl) (Nat.le_of_ble_eq_true rfl)) hS hnt hlk (fun _ _ h _ => h.elim) (Nat.le_of_ble_eq_true rfl) (Nat.le_of_ble_eq_true rfl) (fun rq2_ H2 locs2 hP hz2 hS => ?_)
      refine W.widen (k := 0) (n := 0) (Nat.le_refl _) (Nat.le_refl _) ?_
      obtain ⟨eH, er⟩ := hP
      have eH := eH.symm
      subst eH
      refine x_tov (y := .ref ((zq.2.2 j1))) (by rw [er]; rfl) ?_
      refine va_castE hx hb hown (hts (.classLink RX6 152 "Archeloft$Question") (by decide +kernel)) (x_recv hK (hQ.2 j1 hj1).1 rfl) dX6_questionNumbered_34 ?_
      exact r_q (r := some (zq.2.2 j1)) hx hb hrt9 (Or.inl ⟨_, rfl⟩) hlk hS (Nat.le_of_ble_eq_true rfl) (Nat.le_of_ble_eq_true rfl) dX6_questionNumbered_37 (⟨rfl, j1, hxj, hj1, rfl⟩)
    · exact k_thrW (cls := "java/lang/IndexOutOfBoundsException") (text := "there is no such question") (ik := 213) (is := 260) (ic := 217) hx hb hst hown hev hS (by decide +kernel) (hts (.classLink RX6 213 "java/lang/IndexOutOfBoundsException") (by decide +kernel)) (hts (.initialized "java/lang/IndexOutOfBoundsException") (by decide +kernel)) (by decide +kernel) (by decide +kernel) (fun w h => hts w (ta_X6_questionNumbered_217 w h)) (by decide +kernel) (by decide +kernel) (hl.1.trans hml.symm) dX6_questionNumbered_15 dX6_questionNumbered_18 dX6_questionNumbered_19 dX6_questionNumbered_22 dX6_questionNumbered_25 hnt (Nat.le_of_ble_eq_true rfl) (Nat.le_of_ble_eq_true rfl) (Nat.le_of_ble_eq_true rfl) (Nat.le_of_ble_eq_true rfl) hlk ((fun H1 h1 h2 => ⟨⟨rfl, decide_eq_false (fun z => absurd z.2 c12)⟩, h1, h2⟩)) (Nat.le_of_ble_eq_true rfl) (Nat.le_of_ble_eq_true rfl)
set_option maxRecDepth 100000 in
theorem ta_X6_question_117 : ∀ w ∈ (vx_atS RX6 117 "java/lang/IllegalStateException" ["java/lang/RuntimeException", "java/lang/Exception"]).filter goodWord, w ∈ wsX6_question := by decide +kernel
set_option maxRecDepth 100000 in
theorem in_X6_question_RX2 : ∀ w ∈ wsX20, w ∈ wsX6_question := by decide +kernel
set_option maxRecDepth 100000 in
theorem in_X6_question_RX6 : ∀ w ∈ wsX60, w ∈ wsX6_question := by decide +kernel
set_option maxHeartbeats 4000000 in
set_option maxRecDepth 100000 in
theorem c_X6_question (l : Launch) {D : va_G} {T : Nat → ClassId} {dE mi : Nat} (hst : l.stackTraces = false) {A : Nat → Prop} {H : Heap} {b0 : Nat} {tg : Nat → Nat} {wo : Option Nat} {M : mSt} {y : mLy} (hC : Core D T dE b0 tg H A (sE M) (sR M) y wo (sT M)) (iE : InvE (sE M)) (iR : InvR (sE M) (sR M)) (hwo : wOn (sW M) = wo.isSome) {zq : mLz} (hQ : RepQ D T dE b0 tg H (sQ M) zq) (iQ : InvQ (sQ M)) (x1 x2 x3 : Int32) : vx_Met l yX6_question wsX6_question (rmL 8 5 94) (PcE D T dE mi A H [.ref b0, .int x1, .int x2, .int x3]) (QI A (fun r H1 => (oQuestion M x1 x2 x3).1 = 0 ∧ r = (oQuestion M x1 x2 x3).2.1 ∧ ∃ (tg1 : Nat → Nat) (zq1 : mLz), TG A b0 H1 tg1 ∧ TX tg H tg1 ∧ RepQ D T dE b0 tg1 H1 (sQ (oQuestion M x1 x2 x3).2.2) zq1 ∧ FR tg (fun t => t = 100 ∨ t = 101) H H1)) (XX A (XE H (fun E9 => (E9 = "java/lang/IllegalArgumentException" ∧ (oQuestion M x1 x2 x3).1 = 1) ∨ (E9 = "java/lang/IllegalStateException" ∧ (oQuestion M x1 x2 x3).1 = 2)))) 5 94 A := by
  refine entry (cc := cX6_question) (maxL := 4) (ret := (some .int)) (by decide) rfl (Nat.le_of_ble_eq_true rfl) ?_
  intro p e s m args below meth c hx hb hrt9 hml hown hts hlk hnt hnm hev hS ls hl
  have hown : s.vm.findClass RX6 = some m.cls := hown
  have hK := hev.1
  have hl : lv_has ls 4 [(0, .ref b0), (1, .int x1), (2, .int x2), (3, .int x3)] := hl
  obtain ⟨hT, hX, hE, hR⟩ := id hC
  have hcap9 := hQ.1.1.2.1
  have hcap8 := hQ.1.1.2.2.1
  refine lv_iload_n hx hb dX6_question_0 rfl (lv_at hl 1 rfl) ?_
  refine k_vp (k_S (As := [.int x1]) (rest := []) ⟨hx, hb, hml, hown, hts⟩ hev hS (c_X6_refuseNoSet l hst x1) (va_cwS 1 hts gX6_question_X6_refuseNoSet rfl rfl rfl (by decide +kernel) ⟨Nat.le_of_ble_eq_true rfl, Nat.le_of_ble_eq_true rfl⟩) rfl hl.1 (Nat.le_of_ble_eq_true rfl) dX6_question_1 (Nat.le_of_ble_eq_true rfl) (Nat.le_of_ble_eq_true rfl)) hS hnt hlk (fun E9 H9 h9 z9 => ⟨Or.inl ⟨h9.1.1, by rw [que_1 (Or.inl h9.1.2)]; rfl⟩, h9.2⟩) (Nat.le_of_ble_eq_true rfl) (Nat.le_of_ble_eq_true rfl) (fun H1 locs1 hP hz1 hS => ?_)
  obtain ⟨eH, hsx1⟩ := hP
  have eH := eH.symm
  subst eH
  refine lv_iload_n hx hb dX6_question_4 rfl (lv_at hl 2 rfl) ?_
  refine k_vp (k_S (As := [.int x2]) (rest := []) ⟨hx, hb, hml, hown, hts⟩ hev hS (c_X6_refuseNoSet l hst x2) (va_cwS 1 hts gX6_question_X6_refuseNoSet rfl rfl rfl (by decide +kernel) ⟨Nat.le_of_ble_eq_true rfl, Nat.le_of_ble_eq_true rfl⟩) rfl hl.1 (Nat.le_of_ble_eq_true rfl) dX6_question_5 (Nat.le_of_ble_eq_true rfl) (Nat.le_of_ble_eq_true rfl)) hS hnt hlk (fun E9 H9 h9 z9 => ⟨Or.inl ⟨h9.1.1, by rw [que_1 (Or.inr (Or.inl h9.1.2))]; rfl⟩, h9.2⟩) (Nat.le_of_ble_eq_true rfl) (Nat.le_of_ble_eq_true rfl) (fun H2 locs2 hP hz2 hS => ?_)
  obtain ⟨eH, hsx2⟩ := hP
  have eH := eH.symm
  subst eH
  refine lv_iload_n hx hb dX6_question_8 rfl (lv_at hl 3 rfl) ?_
  refine k_vp (k_S (As := [.int x3]) (rest := []) ⟨hx, hb, hml, hown, hts⟩ hev hS (c_X6_refuseNoSet l hst x3) (va_cwS 1 hts gX6_question_X6_refuseNoSet rfl rfl rfl (by decide +kernel) ⟨Nat.le_of_ble_eq_true rfl, Nat.le_of_ble_eq_true rfl⟩) rfl hl.1 (Nat.le_of_ble_eq_true rfl) dX6_question_9 (Nat.le_of_ble_eq_true rfl) (Nat.le_of_ble_eq_true rfl)) hS hnt hlk (fun E9 H9 h9 z9 => ⟨Or.inl ⟨h9.1.1, by rw [que_1 (Or.inr (Or.inr h9.1.2))]; rfl⟩, h9.2⟩) (Nat.le_of_ble_eq_true rfl) (Nat.le_of_ble_eq_true rfl) (fun H3 locs3 hP hz3 hS => ?_)
  obtain ⟨eH, hsx3⟩ := hP
  have eH := eH.symm
  subst eH
  refine lv_aload_n hx hb dX6_question_12 rfl (lv_at hl 0 rfl) ?_
  refine x_get (C := RX6) (TT := TX6) (N := 6) (ci := 9) (v := .ref ((b0 + 3))) hx hb hts in_X6_question_RX6 hown hK (hX.1) rfl 2 (by decide) (hts (.fieldLink RX6 22 "Archeloft" "questionList" "Ljava/util/ArrayList;") (by decide +kernel)) (fun _ h9 => h9) rfl dX6_question_13 ?_
  refine k_ip (k_V (As := []) (rest := []) ⟨hx, hb, hml, hown, hts⟩ hev hS (c_Jx4a65c_size_8abf5 l hQ.1.1) (cwV 0 hts gX6_question_Jx4a65c_size_8abf5 rfl rfl rfl (by decide +kernel) ⟨Nat.le_of_ble_eq_true rfl, Nat.le_of_ble_eq_true rfl⟩) (x_recv hK ((hQ.1.1.rec).choose_spec) rfl) rfl hl.1 (Nat.le_of_ble_eq_true rfl) dX6_question_16 (Nat.le_of_ble_eq_true rfl) (Nat.le_of_ble_eq_true rfl)) hS hnt hlk (fun _ _ h _ => h.elim) (Nat.le_of_ble_eq_true rfl) (Nat.le_of_ble_eq_true rfl) (fun rq4_ H4 locs4 hP hz4 hS => ?_)
  refine W.widen (k := 0 + 1 + 1 + 1) (n := 0 + 6 + 6 + 6) (Nat.le_refl _) (Nat.le_refl _) ?_
  obtain ⟨eH, er⟩ := hP
  have eH := eH.symm
  subst eH
  refine x_top (y := (nI ((sQ M).1))) (er) ?_
  refine lv_bipush (v := nI 8) hx hb dX6_question_19 (by decide) ?_
  refine y_icmp_lt hx hb (by omega) (Nat.le_of_ble_eq_true rfl) (tgt := 34) dX6_question_21 (by decide) (fun c21 => ?_) (fun c21 => ?_)
  · have hdc := @dC_le zq.2.1 (sQ M).1
    have hds := dS_le hQ.1.2.1 hQ.1.1.2.1 (show (sQ M).1 < 64 by omega)
    refine lv_aload_n hx hb dX6_question_34 rfl (lv_at hl 0 rfl) ?_
    refine x_get (C := RX6) (TT := TX6) (N := 6) (ci := 9) (v := .ref ((b0 + 3))) hx hb hts in_X6_question_RX6 hown hK (hX.1) rfl 2 (by decide) (hts (.fieldLink RX6 22 "Archeloft" "questionList" "Ljava/util/ArrayList;") (by decide +kernel)) (fun _ h9 => h9) rfl dX6_question_35 ?_
    refine x_new (C := RX2) (TT := TX2) (N := 3) (ci := 5) (fs := [.int 0, .int 0, .int 0]) hx hb hts in_X6_question_RX2 tyX2 tyX2_ok hown (hts (.classLink RX6 152 RX2) (by decide +kernel)) (hts (.instantiable RX2 3) (by decide +kernel)) (hts (.initialized RX2) (by decide +kernel)) hK hS rfl (by decide) (Nat.le_of_ble_eq_true rfl) (Nat.le_of_ble_eq_true rfl) dX6_question_38 (fun H5 ho5 hz5 hq5 hS => ?_)
    have k1 : KP H H5 := ⟨by omega, hq5⟩
    refine lv_dup hx hb dX6_question_41 rfl ?_
    refine lv_iload_n hx hb dX6_question_42 rfl (lv_at hl 1 rfl) ?_
    refine lv_iload_n hx hb dX6_question_43 rfl (lv_at hl 2 rfl) ?_
    refine lv_iload_n hx hb dX6_question_44 rfl (lv_at hl 3 rfl) ?_
    refine k_vp (k_I (As := [.int x1, .int x2, .int x3]) (rest := [.ref H.size, .ref ((b0 + 3))]) ⟨hx, hb, hml, hown, hts⟩ hev hS (c_X2_init l ho5 (hT.2.1 _ (Nat.le_refl _)) x1 x2 x3) (cwI 3 hts gX6_question_X2_init rfl rfl rfl (hts (.initialized RX2) (by decide +kernel)) (hts (.methodLink RX6 154 yX2_init) (by decide +kernel)) (hts (.instanceMethod yX2_init) (by decide +kernel)) rfl (by decide +kernel) ⟨Nat.le_of_ble_eq_true rfl, Nat.le_of_ble_eq_true rfl⟩) rfl hl.1 (Nat.le_of_ble_eq_true rfl) dX6_question_45 (Nat.le_of_ble_eq_true rfl) (Nat.le_of_ble_eq_true rfl)) hS hnt hlk (fun _ _ h _ => h.elim) (Nat.le_of_ble_eq_true rfl) (Nat.le_of_ble_eq_true rfl) (fun H6 locs6 hP hz6 hS => ?_)
    refine W.widen (k := 0 + 1 + 1 + 1 + 1) (n := 0 + 6 + 6 + 6 + 3) (Nat.le_refl _) (Nat.le_refl _) ?_
    obtain ⟨ho9, hz9, hq9⟩ := hP
    have k2 : KP H H6 := ⟨by omega, fun q9 h9 => (hq9 q9 (by omega)).trans (hq5 q9 h9)⟩
    have hX2 := hX.kp k2
    have hz8 : H6.size = H.size + 1 := by rw [hz9, hz5]
    refine k_ip (k_V (As := [.ref H.size]) (rest := []) ⟨hx, hb, hml, hown, hts⟩ hev hS (c_addL l (hQ.1.1.kept (k2.2 _ hQ.1.1.lt.1) (k2.2 _ hQ.1.1.lt.2)) hQ.1.2.1.lt (hQ.1.aa hT (by decide)) (hQ.1.aA hT) (fun q9 h9 => hT.2.1 q9 (by omega)) (ci := 5) (rr := (RX2, TX2, 3)) (fun x hx2 => ⟨fun z => absurd (show (102 : Nat) = 100 by rw [← (hQ.2 x hx2).2, ← hQ.1.2.2.1, z]) (by decide), _, (hQ.2 x hx2).1.kept (k2.2 _ (hQ.2 x hx2).1.lt)⟩) rfl (by decide +kernel) ho9 (fun z => absurd (hT.lt hQ.1.2.2.1 (by decide)) (by omega))) (cwV 1 hts gX6_question_Jx4a65c_add_9ea2d rfl rfl rfl (by decide +kernel) ⟨Nat.le_of_ble_eq_true rfl, Nat.le_of_ble_eq_true rfl⟩) (x_recv hK (((hQ.1.1.kept (k2.2 _ hQ.1.1.lt.1) (k2.2 _ hQ.1.1.lt.2)).rec).choose_spec) rfl) rfl hl.1 (Nat.le_of_ble_eq_true rfl) dX6_question_48 (by show _ ≤ (5 : Nat); omega) (by show _ ≤ (94 : Nat); omega)) hS hnt hlk (fun _ _ h _ => h.elim) (by show _ ≤ (5 : Nat); omega) (by show _ ≤ (94 : Nat); omega) (fun rq7_ H7 locs7 hP hz7 hS => ?_)
    obtain ⟨-, hL7, hz7, hq7⟩ := hP
    obtain ⟨tg1, arr1, cap1, t1, tx1, l1, v1, f1⟩ := Rec.ad hT hQ.1 hQ.2 (by decide) (by decide) (by omega) ho9 hz8 k2.2 hL7 hz7 hq7
    have hX3 := hX.keptF hT f1 (by omega) (by omega)
    refine lv_pop hx hb dX6_question_51 rfl ?_
    refine lv_aload_n hx hb dX6_question_52 rfl (lv_at hl 0 rfl) ?_
    refine x_get (C := RX6) (TT := TX6) (N := 6) (ci := 9) (v := .ref ((b0 + 3))) hx hb hts in_X6_question_RX6 hown hK (hX3.1) rfl 2 (by decide) (hts (.fieldLink RX6 22 "Archeloft" "questionList" "Ljava/util/ArrayList;") (by decide +kernel)) (fun _ h9 => h9) rfl dX6_question_53 ?_
    refine k_ip (k_V (As := []) (rest := []) ⟨hx, hb, hml, hown, hts⟩ hev hS (c_Jx4a65c_size_8abf5 l hL7) (cwV 0 hts gX6_question_Jx4a65c_size_8abf5 rfl rfl rfl (by decide +kernel) ⟨Nat.le_of_ble_eq_true rfl, Nat.le_of_ble_eq_true rfl⟩) (x_recv hK ((hL7.rec).choose_spec) rfl) rfl hl.1 (Nat.le_of_ble_eq_true rfl) dX6_question_56 (by show _ ≤ (5 : Nat); omega) (by show _ ≤ (94 : Nat); omega)) hS hnt hlk (fun _ _ h _ => h.elim) (by show _ ≤ (5 : Nat); omega) (by show _ ≤ (94 : Nat); omega) (fun rq8_ H8 locs8 hP hz8 hS => ?_)
    refine W.widen (k := 0 + 1 + 1 + 1 + 1 + (dC zq.2.1 (sQ M).1)) (n := 0 + 6 + 6 + 6 + 3 + (dS zq.2.1 (sQ M).1)) (Nat.le_refl _) (Nat.le_refl _) ?_
    obtain ⟨eH, er⟩ := hP
    have eH := eH.symm
    subst eH
    refine x_top (y := (nI (((sQ M).1 + 1)))) (er) ?_
    refine lv_iconst (v := nI 1) hx hb dX6_question_59 (by decide) ?_
    refine y_isub hx hb (by omega) dX6_question_60 ?_
    exact r_i hx hb hrt9 hlk hS (by omega) (by omega) dX6_question_61 (by
        rw [que_0 hsx1 hsx2 hsx3 (by omega)]
        refine ⟨rfl, rfl, tg1, (arr1, cap1, nu zq.2.2 (sQ M).1 H.size), t1, tx1, ⟨l1, fun i hi => ?_⟩, f1⟩
        obtain ⟨v2, v3⟩ := v1 i hi
        refine ⟨?_, v3⟩
        obtain ⟨a1, ha1, e1⟩ := isS_of hsx1
        obtain ⟨a2, ha2, e2⟩ := isS_of hsx2
        obtain ⟨a3, ha3, e3⟩ := isS_of hsx3
        subst e1 e2 e3
        show oc D _ (nu zq.2.2 (sQ M).1 H.size i) 5 [.int (nI (nu (sQ M).2.1 (sQ M).1 (ix (nI a1)) i)), .int (nI (nu (sQ M).2.2.1 (sQ M).1 (ix (nI a2)) i)), .int (nI (nu (sQ M).2.2.2 (sQ M).1 (ix (nI a3)) i))]
        rw [ix_nI (by omega), ix_nI (by omega), ix_nI (by omega)]
        by_cases c : i = (sQ M).1
        · rw [if_pos c] at v2
          rw [c] at v2 ⊢
          simp only [nu_s] at v2 ⊢
          exact v2
        · rw [if_neg c] at v2
          rw [nu_n (f := (sQ M).2.1) c, nu_n (f := (sQ M).2.2.1) c, nu_n (f := (sQ M).2.2.2) c]
          exact v2)
  · have h8 : (sQ M).1 = 8 := by have := iQ.1; omega
    exact k_thr (cls := "java/lang/IllegalStateException") (text := "there are 8 questions") (ik := 113) (is := 150) (ic := 117) hx hb hst hown hev hS (by decide +kernel) (hts (.classLink RX6 113 "java/lang/IllegalStateException") (by decide +kernel)) (hts (.initialized "java/lang/IllegalStateException") (by decide +kernel)) (by decide +kernel) (by decide +kernel) (fun w h => hts w (ta_X6_question_117 w h)) (by decide +kernel) (by decide +kernel) (hl.1.trans hml.symm) dX6_question_24 dX6_question_27 dX6_question_28 dX6_question_30 dX6_question_33 hnt (Nat.le_of_ble_eq_true rfl) (Nat.le_of_ble_eq_true rfl) (Nat.le_of_ble_eq_true rfl) (Nat.le_of_ble_eq_true rfl) hlk ((fun H1 h1 h2 => ⟨Or.inr ⟨rfl, by rw [que_2 hsx1 hsx2 hsx3 h8]; rfl⟩, h1, h2⟩)) (Nat.le_of_ble_eq_true rfl) (Nat.le_of_ble_eq_true rfl)
