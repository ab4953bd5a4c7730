theorem disB_or (n a b : Nat) : disB n (a ||| b) = (disB n a && disB n b) := by
  unfold disB
  rw [Nat.and_or_distrib_left, Bool.eq_iff_iff, Bool.and_eq_true, beq_iff_eq, beq_iff_eq, beq_iff_eq]
  exact Nat.or_eq_zero_iff
theorem disB_cm (n a : Nat) : disB n a = disB a n := by unfold disB; rw [Nat.and_comm]
theorem bar_eq (r1 w1 r2 w2 : Nat) : barC r1 w1 r2 w2 = barB r2 w2 r1 w1 := by
  unfold barC barB
  rw [disB_or, disB_or, disB_cm w1 w2, disB_cm w1 r2]
  cases disB r2 w1 <;> cases disB w2 w1 <;> cases disB w2 r1 <;> rfl
theorem stg_max {Y : mQ} {rd wr k : Nat} (hb : barB rd wr (Y.2.1 k) (Y.2.2.1 k) = true) : max (stgTo Y rd wr k) (Y.2.2.2 k + 1) = stgTo Y rd wr (k + 1) := by
  by_cases c : Y.2.2.2 k < stgTo Y rd wr k
  · rw [stgTo_f (Or.inr c)]; omega
  · rw [stgTo_t hb c]; omega
theorem stgs_max {Y : mQ} {k : Nat} : max (stgs Y k) (Y.2.2.2 k + 1) = stgs Y (k + 1) := by
  by_cases c : Y.2.2.2 k + 1 ≤ stgs Y k
  · rw [stgs_f c]; omega
  · rw [stgs_t c]; omega
theorem sys_1 {M : mSt} {x y : Int32} (h : isS x = false ∨ isS y = false) : oSystem M x y = oErr M 1 := if_pos h
theorem sys_2 {M : mSt} {x y : Int32} (h : isS x = true) (h2 : isS y = true) (h4 : (sY M).1 = 8) : oSystem M x y = oErr M 2 := (if_neg (fun q => by rw [h, h2] at q; rcases q with q | q <;> cases q)).trans (if_pos h4)
theorem sys_0 {M : mSt} {a b : Nat} (ha : a < 64) (hb : b < 64) (h : isS (nI a) = true) (h2 : isS (nI b) = true) (h4 : ¬ (sY M).1 = 8) : oSystem M (nI a) (nI b) = (0, nI (stgTo (sY M) a b (sY M).1), wY M ((sY M).1 + 1, nu (sY M).2.1 (sY M).1 a, nu (sY M).2.2.1 (sY M).1 b, nu (sY M).2.2.2 (sY M).1 (stgTo (sY M) a b (sY M).1))) := by
  unfold oSystem
  rw [ix_nI (by omega), ix_nI (by omega)]
  exact (if_neg (fun q => by rw [h, h2] at q; rcases q with q | q <;> cases q)).trans (if_neg h4)
set_option maxRecDepth 100000 in
theorem in_X6_stageFor_RX4 : ∀ w ∈ wsX40, w ∈ wsX6_stageFor := by decide +kernel
set_option maxRecDepth 100000 in
theorem in_X6_stageFor_RX6 : ∀ w ∈ wsX60, w ∈ wsX6_stageFor := by decide +kernel
set_option maxHeartbeats 4000000 in
set_option maxRecDepth 100000 in
theorem c_X6_stageFor (l : Launch) {D : va_G} {T : Nat → ClassId} {dE mi : Nat} (hst : l.stackTraces = false) {A : Nat → Prop} {H : Heap} {b0 : Nat} {tg : Nat → Nat} {wo : Option Nat} {tk : Int32} (hX : PX D T b0 H wo tk) {Y9 : mQ} {zy : mLz} (hY : RepY D T dE b0 tg H Y9 zy) (iY : InvY Y9) {a1 a2 : Nat} (ha1 : a1 < 64) (ha2 : a2 < 64) : vx_Met l yX6_stageFor wsX6_stageFor (rmL 3 0 0) (PcE D T dE mi A H [.ref b0, .int (nI a1), .int (nI a2)]) (QI A (fun r H1 => H1 = H ∧ r = nI (stgTo Y9 a1 a2 Y9.1))) (XX A (XN)) 0 0 A := by
  refine entry (cc := cX6_stageFor) (maxL := 6) (ret := (some .int)) (by decide) rfl (Nat.le_of_ble_eq_true rfl) ?_
  intro p e s m args below meth c hx hb hrt9 hml hown hts hlk hnt hnm hev hS ls hl
  have hown : s.vm.findClass RX6 = some m.cls := hown
  have hK := hev.1
  have hl : lv_has ls 6 [(0, .ref b0), (1, .int (nI a1)), (2, .int (nI a2))] := hl
  have hcap9 := hY.1.1.2.1
  have hcap8 := hY.1.1.2.2.1
  refine lv_iconst (v := nI 0) hx hb dX6_stageFor_0 (by decide) ?_
  refine lv_istore_n (lv' := [(3, .int (nI 0)), (0, .ref b0), (1, .int (nI a1)), (2, .int (nI a2))]) hx hb dX6_stageFor_1 rfl hl (by decide) rfl (fun ls hl => ?_)
  refine lv_iconst (v := nI 0) hx hb dX6_stageFor_2 (by decide) ?_
  refine lv_istore (lv' := [(4, .int (nI 0)), (3, .int (nI 0)), (0, .ref b0), (1, .int (nI a1)), (2, .int (nI a2))]) hx hb dX6_stageFor_3 hl (by decide) rfl (fun ls hl => ?_)
  have loop5 : ∀ (n : Nat) (i : Nat) (locsi_ : List Loc), Y9.1 - i < n → (i ≤ Y9.1) → (va_S A s.heap H locsi_) → ∀ (ls : Array Slot), lv_has ls 6 [(4, .int (nI i)), (3, .int (nI ((stgTo Y9 a1 a2 i)))), (2, .int (nI a2)), (1, .int (nI a1)), (0, .ref b0)] → W p l e (rmL 3 0 0) s m args below meth c H locsi_ (0) (0) (vx_MQ below (QI A (fun r H1 => H1 = H ∧ r = nI (stgTo Y9 a1 a2 Y9.1))) (XX A (XN)) args s 0 0 A) (F0 m 5 ls []) := by
    intro n
    induction n with
    | zero => intro i locsi_ hfuel; exact absurd hfuel (Nat.not_lt_zero _)
    | succ n ih5 =>
      intro i locsi_ hfuel hi hS ls hl
      refine lv_iload hx hb dX6_stageFor_5 (lv_at hl 0 rfl) ?_
      refine lv_aload_n hx hb dX6_stageFor_7 rfl (lv_at hl 4 rfl) ?_
      refine x_get (C := RX6) (TT := TX6) (N := 6) (ci := 9) (v := .ref ((b0 + 4))) hx hb hts in_X6_stageFor_RX6 hown hK (hX.1) rfl 3 (by decide) (hts (.fieldLink RX6 25 "Archeloft" "systemList" "Ljava/util/ArrayList;") (by decide +kernel)) (fun _ h9 => h9) rfl dX6_stageFor_8 ?_
      refine k_ip (k_V (As := []) (rest := [.int (nI i)]) ⟨hx, hb, hml, hown, hts⟩ hev hS (c_Jx4a65c_size_8abf5 l hY.1.1) (cwV 0 hts gX6_stageFor_Jx4a65c_size_8abf5 rfl rfl rfl (by decide +kernel) ⟨Nat.le_of_ble_eq_true rfl, Nat.le_of_ble_eq_true rfl⟩) (x_recv hK ((hY.1.1.rec).choose_spec) rfl) rfl hl.1 (Nat.le_of_ble_eq_true rfl) dX6_stageFor_11 (Nat.le_of_ble_eq_true rfl) (Nat.le_of_ble_eq_true rfl)) hS hnt hlk (fun _ _ h _ => h.elim) (Nat.le_of_ble_eq_true rfl) (Nat.le_of_ble_eq_true rfl) (fun rq1_ H1 locs1 hP hz1 hS => ?_)
      refine W.widen (k := 0) (n := 0) (Nat.le_refl _) (Nat.le_refl _) ?_
      obtain ⟨eH, er⟩ := hP
      have eH := eH.symm
      subst eH
      refine x_top (y := (nI Y9.1)) (er) ?_
      refine y_icmp_ge hx hb (by omega) (by omega) (tgt := 59) dX6_stageFor_14 (by decide) (fun c14 => ?_) (fun c14 => ?_)
      · have ei : i = Y9.1 := by omega
        refine lv_iload_n hx hb dX6_stageFor_59 rfl (lv_at hl 1 rfl) ?_
        exact r_i hx hb hrt9 hlk hS (Nat.le_of_ble_eq_true rfl) (Nat.le_of_ble_eq_true rfl) dX6_stageFor_60 (⟨rfl, by rw [ei]⟩)
      · have hi2 : i < Y9.1 := by omega
        obtain ⟨hyo, hyt⟩ := hY.2 i hi2
        obtain ⟨yb1, yb2, yb3⟩ := iY.2 i hi2
        have hy8 := iY.1
        refine lv_aload_n hx hb dX6_stageFor_17 rfl (lv_at hl 4 rfl) ?_
        refine x_get (C := RX6) (TT := TX6) (N := 6) (ci := 9) (v := .ref ((b0 + 4))) hx hb hts in_X6_stageFor_RX6 hown hK (hX.1) rfl 3 (by decide) (hts (.fieldLink RX6 25 "Archeloft" "systemList" "Ljava/util/ArrayList;") (by decide +kernel)) (fun _ h9 => h9) rfl dX6_stageFor_18 ?_
        refine lv_iload hx hb dX6_stageFor_21 (lv_at hl 0 rfl) ?_
        refine k_qp (k_V (As := [.int (nI i)]) (rest := []) ⟨hx, hb, hml, hown, hts⟩ hev hS (c_Jx4a65c_get_915e3 l hY.1.1 (i := i) (hi2)) (cwV 1 hts gX6_stageFor_Jx4a65c_get_915e3 rfl rfl rfl (by decide +kernel) ⟨Nat.le_of_ble_eq_true rfl, Nat.le_of_ble_eq_true rfl⟩) (x_recv hK ((hY.1.1.rec).choose_spec) rfl) rfl hl.1 (Nat.le_of_ble_eq_true rfl) dX6_stageFor_23 (Nat.le_of_ble_eq_true rfl) (Nat.le_of_ble_eq_true rfl)) hS hnt hlk (fun _ _ h _ => h.elim) (Nat.le_of_ble_eq_true rfl) (Nat.le_of_ble_eq_true rfl) (fun rq2_ H2 locs2 hP hz2 hS => ?_)
        refine W.widen (k := 0) (n := 0) (Nat.le_refl _) (Nat.le_refl _) ?_
        obtain ⟨eH, er⟩ := hP
        have eH := eH.symm
        subst eH
        refine x_tov (y := .ref ((zy.2.2 i))) (by rw [er]; rfl) ?_
        refine va_castE hx hb hown (hts (.classLink RX6 210 "Archeloft$StagedSystem") (by decide +kernel)) (x_recv hK hyo rfl) dX6_stageFor_26 ?_
        refine lv_astore (lv' := [(5, .ref ((zy.2.2 i))), (4, .int (nI i)), (3, .int (nI ((stgTo Y9 a1 a2 i)))), (2, .int (nI a2)), (1, .int (nI a1)), (0, .ref b0)]) hx hb dX6_stageFor_29 hl (by decide) rfl (fun ls hl => ?_)
        refine lv_aload hx hb dX6_stageFor_31 (lv_at hl 0 rfl) ?_
        refine lv_iload_n hx hb dX6_stageFor_33 rfl (lv_at hl 4 rfl) ?_
        refine lv_iload_n hx hb dX6_stageFor_34 rfl (lv_at hl 3 rfl) ?_
        refine k_ip (k_V (As := [.int (nI a1), .int (nI a2)]) (rest := []) ⟨hx, hb, hml, hown, hts⟩ hev hS (c_X4_bars l hyo yb1 yb2 ha1 ha2) (cwV 2 hts gX6_stageFor_X4_bars rfl rfl rfl (by decide +kernel) ⟨Nat.le_of_ble_eq_true rfl, Nat.le_of_ble_eq_true rfl⟩) (x_recv hK hyo rfl) rfl hl.1 (Nat.le_of_ble_eq_true rfl) dX6_stageFor_35 (Nat.le_of_ble_eq_true rfl) (Nat.le_of_ble_eq_true rfl)) hS hnt hlk (fun _ _ h _ => h.elim) (Nat.le_of_ble_eq_true rfl) (Nat.le_of_ble_eq_true rfl) (fun rq3_ H3 locs3 hP hz3 hS => ?_)
        refine W.widen (k := 0) (n := 0) (Nat.le_refl _) (Nat.le_refl _) ?_
        obtain ⟨eH, er3⟩ := hP
        have eH := eH.symm
        subst eH
        refine x_top (y := (bI ((barB a1 a2 (Y9.2.1 i) (Y9.2.2.1 i))))) (by rw [er3, bar_eq]) ?_
        refine y_bif_eq hx hb (tgt := 53) dX6_stageFor_38 (by decide) (fun c38 => ?_) (fun c38 => ?_)
        · have hl : lv_has ls 6 [(5, .ref ((zy.2.2 i))), (4, .int (nI i)), (3, .int (nI ((stgTo Y9 a1 a2 (i + 1))))), (2, .int (nI a2)), (1, .int (nI a1)), (0, .ref b0)] := by
            have e9 : (nI ((stgTo Y9 a1 a2 i))) = (nI ((stgTo Y9 a1 a2 (i + 1)))) := by rw [stgTo_f (Or.inl c38)]
            rw [← e9]; exact hl
          refine lv_iinc (v := (nI (i + 1))) (lv' := [(4, .int (nI (i + 1))), (5, .ref ((zy.2.2 i))), (3, .int (nI ((stgTo Y9 a1 a2 (i + 1))))), (2, .int (nI a2)), (1, .int (nI a1)), (0, .ref b0)]) hx hb dX6_stageFor_53 hl (k := 1) rfl (nI_inc _) (by decide) rfl (fun ls hl => ?_)
          refine lv_goto (tgt := 5) hx hb dX6_stageFor_56 (by decide) ?_
          exact ih5 (i + 1) locs3 (by omega) (by omega) hS ls (lv_sub hl [0, 2, 3, 4, 5] rfl)
        · refine lv_iload_n hx hb dX6_stageFor_41 rfl (lv_at hl 2 rfl) ?_
          refine lv_aload hx hb dX6_stageFor_42 (lv_at hl 0 rfl) ?_
          refine x_getN (C := RX4) (TT := TX4) (N := 3) (ci := 7) (v := .int (nI ((Y9.2.2.2 i)))) hx hb hts in_X6_stageFor_RX4 hown hK (hyo) rfl 2 (by decide) (hev.2.2.2.2.1.2 ("Archeloft", 218, "Archeloft$StagedSystem", "stage", "I") (by decide +kernel)) (fun _ h9 => h9) rfl dX6_stageFor_44 ?_
          refine lv_iconst (v := nI 1) hx hb dX6_stageFor_47 (by decide) ?_
          refine y_iadd hx hb dX6_stageFor_48 ?_
          refine va_mmax hx hb (hml.trans hl.1.symm) hown (hts (.methodLink RX6 221 Lib.Math.max.name) (by decide +kernel)) (hts (.static Lib.Math.max.name) (by decide +kernel)) (hts (.initialized "java/lang/Math") (by decide +kernel)) (hts (.code Lib.Math.max.name Lib.Math.max.code 2 (some .int)) (by decide +kernel)) (Nat.le_of_ble_eq_true rfl) (Nat.le_of_ble_eq_true rfl) (Nat.le_of_ble_eq_true rfl) (Nat.le_of_ble_eq_true rfl) dX6_stageFor_49 ?_
          have hsl := stgTo_le (rd := a1) (wr := a2) iY i (by omega)
          refine x_top (y := (nI ((stgTo Y9 a1 a2 (i + 1))))) (by rw [max_nI (by omega) (by omega), stg_max c38]) ?_
          refine lv_istore_n (lv' := [(3, .int (nI ((stgTo Y9 a1 a2 (i + 1))))), (5, .ref ((zy.2.2 i))), (4, .int (nI i)), (2, .int (nI a2)), (1, .int (nI a1)), (0, .ref b0)]) hx hb dX6_stageFor_52 rfl hl (by decide) rfl (fun ls hl => ?_)
          refine lv_iinc (v := (nI (i + 1))) (lv' := [(4, .int (nI (i + 1))), (3, .int (nI ((stgTo Y9 a1 a2 (i + 1))))), (5, .ref ((zy.2.2 i))), (2, .int (nI a2)), (1, .int (nI a1)), (0, .ref b0)]) hx hb dX6_stageFor_53 hl (k := 2) rfl (nI_inc _) (by decide) rfl (fun ls hl => ?_)
          refine lv_goto (tgt := 5) hx hb dX6_stageFor_56 (by decide) ?_
          exact ih5 (i + 1) locs3 (by omega) (by omega) hS ls (lv_sub hl [0, 1, 3, 4, 5] rfl)
  exact loop5 ((Y9.1 - 0) + 1) 0 [] (Nat.lt_succ_self _) (Nat.zero_le _) hS ls (lv_sub hl [0, 1, 4, 3, 2] rfl)
set_option maxRecDepth 100000 in
theorem in_X6_stages_RX4 : ∀ w ∈ wsX40, w ∈ wsX6_stages := by decide +kernel
set_option maxRecDepth 100000 in
theorem in_X6_stages_RX6 : ∀ w ∈ wsX60, w ∈ wsX6_stages := by decide +kernel
set_option maxHeartbeats 4000000 in
set_option maxRecDepth 100000 in
theorem c_X6_stages (l : Launch) {D : va_G} {T : Nat → ClassId} {dE mi : Nat} (hst : l.stackTraces = false) {A : Nat → Prop} {H : Heap} {b0 : Nat} {tg : Nat → Nat} {wo : Option Nat} {tk : Int32} (hX : PX D T b0 H wo tk) {Y9 : mQ} {zy : mLz} (hY : RepY D T dE b0 tg H Y9 zy) (iY : InvY Y9) : vx_Met l yX6_stages wsX6_stages (rmL 3 0 0) (PcE D T dE mi A H [.ref b0]) (QI A (fun r H1 => H1 = H ∧ r = nI (stgs Y9 Y9.1))) (XX A (XN)) 0 0 A := by
  refine entry (cc := cX6_stages) (maxL := 3) (ret := (some .int)) (by decide) rfl (Nat.le_of_ble_eq_true rfl) ?_
  intro p e s m args below meth c hx hb hrt9 hml hown hts hlk hnt hnm hev hS ls hl
  have hown : s.vm.findClass RX6 = some m.cls := hown
  have hK := hev.1
  have hl : lv_has ls 3 [(0, .ref b0)] := hl
  have hcap9 := hY.1.1.2.1
  have hcap8 := hY.1.1.2.2.1
  refine lv_iconst (v := nI 0) hx hb dX6_stages_0 (by decide) ?_
  refine lv_istore_n (lv' := [(1, .int (nI 0)), (0, .ref b0)]) hx hb dX6_stages_1 rfl hl (by decide) rfl (fun ls hl => ?_)
  refine lv_iconst (v := nI 0) hx hb dX6_stages_2 (by decide) ?_
  refine lv_istore_n (lv' := [(2, .int (nI 0)), (1, .int (nI 0)), (0, .ref b0)]) hx hb dX6_stages_3 rfl hl (by decide) rfl (fun ls hl => ?_)
  have loop4 : ∀ (n : Nat) (i : Nat) (locsi_ : List Loc), Y9.1 - i < n → (i ≤ Y9.1) → (va_S A s.heap H locsi_) → ∀ (ls : Array Slot), lv_has ls 3 [(2, .int (nI i)), (1, .int (nI ((stgs Y9 i)))), (0, .ref b0)] → W p l e (rmL 3 0 0) s m args below meth c H locsi_ (0) (0) (vx_MQ below (QI A (fun r H1 => H1 = H ∧ r = nI (stgs Y9 Y9.1))) (XX A (XN)) args s 0 0 A) (F0 m 4 ls []) := by
    intro n
    induction n with
    | zero => intro i locsi_ hfuel; exact absurd hfuel (Nat.not_lt_zero _)
    | succ n ih4 =>
      intro i locsi_ hfuel hi hS ls hl
      refine lv_iload_n hx hb dX6_stages_4 rfl (lv_at hl 0 rfl) ?_
      refine lv_aload_n hx hb dX6_stages_5 rfl (lv_at hl 2 rfl) ?_
      refine x_get (C := RX6) (TT := TX6) (N := 6) (ci := 9) (v := .ref ((b0 + 4))) hx hb hts in_X6_stages_RX6 hown hK (hX.1) rfl 3 (by decide) (hts (.fieldLink RX6 25 "Archeloft" "systemList" "Ljava/util/ArrayList;") (by decide +kernel)) (fun _ h9 => h9) rfl dX6_stages_6 ?_
      refine k_ip (k_V (As := []) (rest := [.int (nI i)]) ⟨hx, hb, hml, hown, hts⟩ hev hS (c_Jx4a65c_size_8abf5 l hY.1.1) (cwV 0 hts gX6_stages_Jx4a65c_size_8abf5 rfl rfl rfl (by decide +kernel) ⟨Nat.le_of_ble_eq_true rfl, Nat.le_of_ble_eq_true rfl⟩) (x_recv hK ((hY.1.1.rec).choose_spec) rfl) rfl hl.1 (Nat.le_of_ble_eq_true rfl) dX6_stages_9 (Nat.le_of_ble_eq_true rfl) (Nat.le_of_ble_eq_true rfl)) hS hnt hlk (fun _ _ h _ => h.elim) (Nat.le_of_ble_eq_true rfl) (Nat.le_of_ble_eq_true rfl) (fun rq1_ H1 locs1 hP hz1 hS => ?_)
      refine W.widen (k := 0) (n := 0) (Nat.le_refl _) (Nat.le_refl _) ?_
      obtain ⟨eH, er⟩ := hP
      have eH := eH.symm
      subst eH
      refine x_top (y := (nI Y9.1)) (er) ?_
      refine y_icmp_ge hx hb (by omega) (by omega) (tgt := 42) dX6_stages_12 (by decide) (fun c12 => ?_) (fun c12 => ?_)
      · have ei : i = Y9.1 := by omega
        refine lv_iload_n hx hb dX6_stages_42 rfl (lv_at hl 1 rfl) ?_
        exact r_i hx hb hrt9 hlk hS (Nat.le_of_ble_eq_true rfl) (Nat.le_of_ble_eq_true rfl) dX6_stages_43 (⟨rfl, by rw [ei]⟩)
      · have hi2 : i < Y9.1 := by omega
        obtain ⟨hyo, hyt⟩ := hY.2 i hi2
        obtain ⟨yb1, yb2, yb3⟩ := iY.2 i hi2
        have hy8 := iY.1
        refine lv_iload_n hx hb dX6_stages_15 rfl (lv_at hl 1 rfl) ?_
        refine lv_aload_n hx hb dX6_stages_16 rfl (lv_at hl 2 rfl) ?_
        refine x_get (C := RX6) (TT := TX6) (N := 6) (ci := 9) (v := .ref ((b0 + 4))) hx hb hts in_X6_stages_RX6 hown hK (hX.1) rfl 3 (by decide) (hts (.fieldLink RX6 25 "Archeloft" "systemList" "Ljava/util/ArrayList;") (by decide +kernel)) (fun _ h9 => h9) rfl dX6_stages_17 ?_
        refine lv_iload_n hx hb dX6_stages_20 rfl (lv_at hl 0 rfl) ?_
        refine k_qp (k_V (As := [.int (nI i)]) (rest := [.int (nI ((stgs Y9 i)))]) ⟨hx, hb, hml, hown, hts⟩ hev hS (c_Jx4a65c_get_915e3 l hY.1.1 (i := i) (hi2)) (cwV 1 hts gX6_stages_Jx4a65c_get_915e3 rfl rfl rfl (by decide +kernel) ⟨Nat.le_of_ble_eq_true rfl, Nat.le_of_ble_eq_true rfl⟩) (x_recv hK ((hY.1.1.rec).choose_spec) rfl) rfl hl.1 (Nat.le_of_ble_eq_true rfl) dX6_stages_21 (Nat.le_of_ble_eq_true rfl) (Nat.le_of_ble_eq_true rfl)) hS hnt hlk (fun _ _ h _ => h.elim) (Nat.le_of_ble_eq_true rfl) (Nat.le_of_ble_eq_true rfl) (fun rq2_ H2 locs2 hP hz2 hS => ?_)
        refine W.widen (k := 0) (n := 0) (Nat.le_refl _) (Nat.le_refl _) ?_
        obtain ⟨eH, er⟩ := hP
        have eH := eH.symm
        subst eH
        refine x_tov (y := .ref ((zy.2.2 i))) (by rw [er]; rfl) ?_
        refine va_castE hx hb hown (hts (.classLink RX6 210 "Archeloft$StagedSystem") (by decide +kernel)) (x_recv hK hyo rfl) dX6_stages_24 ?_
        refine x_getN (C := RX4) (TT := TX4) (N := 3) (ci := 7) (v := .int (nI ((Y9.2.2.2 i)))) hx hb hts in_X6_stages_RX4 hown hK (hyo) rfl 2 (by decide) (hev.2.2.2.2.1.2 ("Archeloft", 218, "Archeloft$StagedSystem", "stage", "I") (by decide +kernel)) (fun _ h9 => h9) rfl dX6_stages_27 ?_
        refine lv_iconst (v := nI 1) hx hb dX6_stages_30 (by decide) ?_
        refine y_iadd hx hb dX6_stages_31 ?_
        refine va_mmax hx hb (hml.trans hl.1.symm) hown (hts (.methodLink RX6 221 Lib.Math.max.name) (by decide +kernel)) (hts (.static Lib.Math.max.name) (by decide +kernel)) (hts (.initialized "java/lang/Math") (by decide +kernel)) (hts (.code Lib.Math.max.name Lib.Math.max.code 2 (some .int)) (by decide +kernel)) (Nat.le_of_ble_eq_true rfl) (Nat.le_of_ble_eq_true rfl) (Nat.le_of_ble_eq_true rfl) (Nat.le_of_ble_eq_true rfl) dX6_stages_32 ?_
        have hsl := stgs_le iY i (by omega)
        refine x_top (y := (nI ((stgs Y9 (i + 1))))) (by rw [max_nI (by omega) (by omega), stgs_max]) ?_
        refine lv_istore_n (lv' := [(1, .int (nI ((stgs Y9 (i + 1))))), (2, .int (nI i)), (0, .ref b0)]) hx hb dX6_stages_35 rfl hl (by decide) rfl (fun ls hl => ?_)
        refine lv_iinc (v := (nI (i + 1))) (lv' := [(2, .int (nI (i + 1))), (1, .int (nI ((stgs Y9 (i + 1))))), (0, .ref b0)]) hx hb dX6_stages_36 hl (k := 1) rfl (nI_inc _) (by decide) rfl (fun ls hl => ?_)
        refine lv_goto (tgt := 4) hx hb dX6_stages_39 (by decide) ?_
        exact ih4 (i + 1) locs2 (by omega) (by omega) hS ls (lv_sub hl [0, 1, 2] rfl)
  exact loop4 ((Y9.1 - 0) + 1) 0 [] (Nat.lt_succ_self _) (Nat.zero_le _) hS ls (lv_sub hl [0, 1, 2] rfl)
set_option maxRecDepth 100000 in
theorem ta_X6_stage_217 : ∀ w ∈ (vx_atS RX6 217 "java/lang/IndexOutOfBoundsException" ["java/lang/RuntimeException", "java/lang/Exception"]).filter goodWord, w ∈ wsX6_stage := by decide +kernel
set_option maxRecDepth 100000 in
theorem in_X6_stage_RX4 : ∀ w ∈ wsX40, w ∈ wsX6_stage := by decide +kernel
set_option maxRecDepth 100000 in
theorem in_X6_stage_RX6 : ∀ w ∈ wsX60, w ∈ wsX6_stage := by decide +kernel
set_option maxHeartbeats 4000000 in
set_option maxRecDepth 100000 in
theorem c_X6_stage (l : Launch) {D : va_G} {T : Nat → ClassId} {dE mi : Nat} (hst : l.stackTraces = false) {A : Nat → Prop} {H : Heap} {b0 : Nat} {tg : Nat → Nat} {wo : Option Nat} {tk : Int32} (hX : PX D T b0 H wo tk) {Y9 : mQ} {zy : mLz} (hY : RepY D T dE b0 tg H Y9 zy) (iY : InvY Y9) (x : Int32) : vx_Met l yX6_stage wsX6_stage (rmL 6 1 6) (PcE D T dE mi A H [.ref b0, .int x]) (QI A (fun r H1 => H1 = H ∧ ∃ j, x = nI j ∧ j < Y9.1 ∧ r = nI (Y9.2.2.2 j))) (XX A (XE H (fun E9 => E9 = "java/lang/IndexOutOfBoundsException" ∧ inB x Y9.1 = false))) 1 6 A := by
  refine entry (cc := cX6_stage) (maxL := 2) (ret := (some .int)) (by decide) rfl (Nat.le_of_ble_eq_true rfl) ?_
  intro p e s m args below meth c hx hb hrt9 hml hown hts hlk hnt hnm hev hS ls hl
  have hown : s.vm.findClass RX6 = some m.cls := hown
  have hK := hev.1
  have hl : lv_has ls 2 [(0, .ref b0), (1, .int x)] := hl
  have hcap9 := hY.1.1.2.1
  have hcap8 := hY.1.1.2.2.1
  refine lv_iload_n hx hb dX6_stage_0 rfl (lv_at hl 1 rfl) ?_
  refine lv_if_lt (tgt := 15) hx hb dX6_stage_1 (by decide) (fun c1 => ?_) (fun c1 => ?_)
  · exact k_thr (cls := "java/lang/IndexOutOfBoundsException") (text := "there is no such system") (ik := 213) (is := 215) (ic := 217) hx hb hst hown hev hS (by decide +kernel) (hts (.classLink RX6 213 "java/lang/IndexOutOfBoundsException") (by decide +kernel)) (hts (.initialized "java/lang/IndexOutOfBoundsException") (by decide +kernel)) (by decide +kernel) (by decide +kernel) (fun w h => hts w (ta_X6_stage_217 w h)) (by decide +kernel) (by decide +kernel) (hl.1.trans hml.symm) dX6_stage_15 dX6_stage_18 dX6_stage_19 dX6_stage_21 dX6_stage_24 hnt (Nat.le_of_ble_eq_true rfl) (Nat.le_of_ble_eq_true rfl) (Nat.le_of_ble_eq_true rfl) (Nat.le_of_ble_eq_true rfl) hlk ((fun H1 h1 h2 => ⟨⟨rfl, inB_neg c1⟩, h1, h2⟩)) (Nat.le_of_ble_eq_true rfl) (Nat.le_of_ble_eq_true rfl)
  · refine lv_iload_n hx hb dX6_stage_4 rfl (lv_at hl 1 rfl) ?_
    refine lv_aload_n hx hb dX6_stage_5 rfl (lv_at hl 0 rfl) ?_
    refine x_get (C := RX6) (TT := TX6) (N := 6) (ci := 9) (v := .ref ((b0 + 4))) hx hb hts in_X6_stage_RX6 hown hK (hX.1) rfl 3 (by decide) (hts (.fieldLink RX6 25 "Archeloft" "systemList" "Ljava/util/ArrayList;") (by decide +kernel)) (fun _ h9 => h9) rfl dX6_stage_6 ?_
    refine k_ip (k_V (As := []) (rest := [.int x]) ⟨hx, hb, hml, hown, hts⟩ hev hS (c_Jx4a65c_size_8abf5 l hY.1.1) (cwV 0 hts gX6_stage_Jx4a65c_size_8abf5 rfl rfl rfl (by decide +kernel) ⟨Nat.le_of_ble_eq_true rfl, Nat.le_of_ble_eq_true rfl⟩) (x_recv hK ((hY.1.1.rec).choose_spec) rfl) rfl hl.1 (Nat.le_of_ble_eq_true rfl) dX6_stage_9 (Nat.le_of_ble_eq_true rfl) (Nat.le_of_ble_eq_true rfl)) hS hnt hlk (fun _ _ h _ => h.elim) (Nat.le_of_ble_eq_true rfl) (Nat.le_of_ble_eq_true rfl) (fun rq1_ H1 locs1 hP hz1 hS => ?_)
    refine W.widen (k := 0) (n := 0) (Nat.le_refl _) (Nat.le_refl _) ?_
    obtain ⟨eH, er⟩ := hP
    have eH := eH.symm
    subst eH
    refine x_top (y := (nI Y9.1)) (er) ?_
    refine lv_icmp_lt (tgt := 25) hx hb dX6_stage_12 (by decide) (fun c12 => ?_) (fun c12 => ?_)
    · have hin : inB x Y9.1 = true := decide_eq_true ⟨i32_nlt c1, c12⟩
      obtain ⟨j1, hj1, hxj⟩ := inB_of (by omega) hin
      have hl : lv_has ls 2 [(0, .ref b0), (1, .int (nI j1))] := by
        have e9 : x = (nI j1) := hxj
        rw [← e9]; exact hl
      refine lv_aload_n hx hb dX6_stage_25 rfl (lv_at hl 0 rfl) ?_
      refine x_get (C := RX6) (TT := TX6) (N := 6) (ci := 9) (v := .ref ((b0 + 4))) hx hb hts in_X6_stage_RX6 hown hK (hX.1) rfl 3 (by decide) (hts (.fieldLink RX6 25 "Archeloft" "systemList" "Ljava/util/ArrayList;") (by decide +kernel)) (fun _ h9 => h9) rfl dX6_stage_26 ?_
      refine lv_iload_n hx hb dX6_stage_29 rfl (lv_at hl 1 rfl) ?_
      refine k_qp (k_V (As := [.int (nI j1)]) (rest := []) ⟨hx, hb, hml, hown, hts⟩ hev hS (c_Jx4a65c_get_915e3 l hY.1.1 (i := j1) (hj1)) (cwV 1 hts gX6_stage_Jx4a65c_get_915e3 rfl rfl rfl (by decide +kernel) ⟨Nat.le_of_ble_eq_true rfl, Nat.le_of_ble_eq_true rfl⟩) (x_recv hK ((hY.1.1.rec).choose_spec) rfl) rfl hl.1 (Nat.le_of_ble_eq_true rfl) dX6_stage_30 (Nat.le_of_ble_eq_true rfl) (Nat.le_of_ble_eq_true rfl)) hS hnt hlk (fun _ _ h _ => h.elim) (Nat.le_of_ble_eq_true rfl) (Nat.le_of_ble_eq_true rfl) (fun rq2_ H2 locs2 hP hz2 hS => ?_)
      refine W.widen (k := 0) (n := 0) (Nat.le_refl _) (Nat.le_refl _) ?_
      obtain ⟨eH, er⟩ := hP
      have eH := eH.symm
      subst eH
      refine x_tov (y := .ref ((zy.2.2 j1))) (by rw [er]; rfl) ?_
      refine va_castE hx hb hown (hts (.classLink RX6 210 "Archeloft$StagedSystem") (by decide +kernel)) (x_recv hK (hY.2 j1 hj1).1 rfl) dX6_stage_33 ?_
      refine x_getN (C := RX4) (TT := TX4) (N := 3) (ci := 7) (v := .int (nI ((Y9.2.2.2 j1)))) hx hb hts in_X6_stage_RX4 hown hK ((hY.2 j1 hj1).1) rfl 2 (by decide) (hev.2.2.2.2.1.2 ("Archeloft", 218, "Archeloft$StagedSystem", "stage", "I") (by decide +kernel)) (fun _ h9 => h9) rfl dX6_stage_36 ?_
      exact r_i hx hb hrt9 hlk hS (Nat.le_of_ble_eq_true rfl) (Nat.le_of_ble_eq_true rfl) dX6_stage_39 (⟨rfl, j1, hxj, hj1, rfl⟩)
    · exact k_thr (cls := "java/lang/IndexOutOfBoundsException") (text := "there is no such system") (ik := 213) (is := 215) (ic := 217) hx hb hst hown hev hS (by decide +kernel) (hts (.classLink RX6 213 "java/lang/IndexOutOfBoundsException") (by decide +kernel)) (hts (.initialized "java/lang/IndexOutOfBoundsException") (by decide +kernel)) (by decide +kernel) (by decide +kernel) (fun w h => hts w (ta_X6_stage_217 w h)) (by decide +kernel) (by decide +kernel) (hl.1.trans hml.symm) dX6_stage_15 dX6_stage_18 dX6_stage_19 dX6_stage_21 dX6_stage_24 hnt (Nat.le_of_ble_eq_true rfl) (Nat.le_of_ble_eq_true rfl) (Nat.le_of_ble_eq_true rfl) (Nat.le_of_ble_eq_true rfl) hlk ((fun H1 h1 h2 => ⟨⟨rfl, decide_eq_false (fun z => absurd z.2 c12)⟩, h1, h2⟩)) (Nat.le_of_ble_eq_true rfl) (Nat.le_of_ble_eq_true rfl)
set_option maxRecDepth 100000 in
theorem ta_X6_system_117 : ∀ w ∈ (vx_atS RX6 117 "java/lang/IllegalStateException" ["java/lang/RuntimeException", "java/lang/Exception"]).filter goodWord, w ∈ wsX6_system := by decide +kernel
set_option maxRecDepth 100000 in
theorem in_X6_system_RX4 : ∀ w ∈ wsX40, w ∈ wsX6_system := by decide +kernel
set_option maxRecDepth 100000 in
theorem in_X6_system_RX6 : ∀ w ∈ wsX60, w ∈ wsX6_system := by decide +kernel
set_option maxHeartbeats 4000000 in
set_option maxRecDepth 100000 in
theorem c_X6_system (l : Launch) {D : va_G} {T : Nat → ClassId} {dE mi : Nat} (hst : l.stackTraces = false) {A : Nat → Prop} {H : Heap} {b0 : Nat} {tg : Nat → Nat} {wo : Option Nat} {M : mSt} {y : mLy} (hC : Core D T dE b0 tg H A (sE M) (sR M) y wo (sT M)) (iE : InvE (sE M)) (iR : InvR (sE M) (sR M)) (hwo : wOn (sW M) = wo.isSome) {zy : mLz} (hY : RepY D T dE b0 tg H (sY M) zy) (iY : InvY (sY M)) (x1 x2 : Int32) : vx_Met l yX6_system wsX6_system (rmL 8 4 88) (PcE D T dE mi A H [.ref b0, .int x1, .int x2]) (QI A (fun r H1 => (oSystem M x1 x2).1 = 0 ∧ r = (oSystem M x1 x2).2.1 ∧ ∃ (tg1 : Nat → Nat) (zy1 : mLz), TG A b0 H1 tg1 ∧ TX tg H tg1 ∧ RepY D T dE b0 tg1 H1 (sY (oSystem M x1 x2).2.2) zy1 ∧ FR tg (fun t => t = 200 ∨ t = 201) H H1)) (XX A (XE H (fun E9 => (E9 = "java/lang/IllegalArgumentException" ∧ (oSystem M x1 x2).1 = 1) ∨ (E9 = "java/lang/IllegalStateException" ∧ (oSystem M x1 x2).1 = 2)))) 4 88 A := by
  refine entry (cc := cX6_system) (maxL := 4) (ret := (some .int)) (by decide) rfl (Nat.le_of_ble_eq_true rfl) ?_
  intro p e s m args below meth c hx hb hrt9 hml hown hts hlk hnt hnm hev hS ls hl
  have hown : s.vm.findClass RX6 = some m.cls := hown
  have hK := hev.1
  have hl : lv_has ls 4 [(0, .ref b0), (1, .int x1), (2, .int x2)] := hl
  obtain ⟨hT, hX, hE, hR⟩ := id hC
  have hcap9 := hY.1.1.2.1
  have hcap8 := hY.1.1.2.2.1
  refine lv_iload_n hx hb dX6_system_0 rfl (lv_at hl 1 rfl) ?_
  refine k_vp (k_S (As := [.int x1]) (rest := []) ⟨hx, hb, hml, hown, hts⟩ hev hS (c_X6_refuseNoSet l hst x1) (va_cwS 1 hts gX6_system_X6_refuseNoSet rfl rfl rfl (by decide +kernel) ⟨Nat.le_of_ble_eq_true rfl, Nat.le_of_ble_eq_true rfl⟩) rfl hl.1 (Nat.le_of_ble_eq_true rfl) dX6_system_1 (Nat.le_of_ble_eq_true rfl) (Nat.le_of_ble_eq_true rfl)) hS hnt hlk (fun E9 H9 h9 z9 => ⟨Or.inl ⟨h9.1.1, by rw [sys_1 (Or.inl h9.1.2)]; rfl⟩, h9.2⟩) (Nat.le_of_ble_eq_true rfl) (Nat.le_of_ble_eq_true rfl) (fun H1 locs1 hP hz1 hS => ?_)
  obtain ⟨eH, hsx1⟩ := hP
  have eH := eH.symm
  subst eH
  refine lv_iload_n hx hb dX6_system_4 rfl (lv_at hl 2 rfl) ?_
  refine k_vp (k_S (As := [.int x2]) (rest := []) ⟨hx, hb, hml, hown, hts⟩ hev hS (c_X6_refuseNoSet l hst x2) (va_cwS 1 hts gX6_system_X6_refuseNoSet rfl rfl rfl (by decide +kernel) ⟨Nat.le_of_ble_eq_true rfl, Nat.le_of_ble_eq_true rfl⟩) rfl hl.1 (Nat.le_of_ble_eq_true rfl) dX6_system_5 (Nat.le_of_ble_eq_true rfl) (Nat.le_of_ble_eq_true rfl)) hS hnt hlk (fun E9 H9 h9 z9 => ⟨Or.inl ⟨h9.1.1, by rw [sys_1 (Or.inr h9.1.2)]; rfl⟩, h9.2⟩) (Nat.le_of_ble_eq_true rfl) (Nat.le_of_ble_eq_true rfl) (fun H2 locs2 hP hz2 hS => ?_)
  obtain ⟨eH, hsx2⟩ := hP
  have eH := eH.symm
  subst eH
  refine lv_aload_n hx hb dX6_system_8 rfl (lv_at hl 0 rfl) ?_
  refine x_get (C := RX6) (TT := TX6) (N := 6) (ci := 9) (v := .ref ((b0 + 4))) hx hb hts in_X6_system_RX6 hown hK (hX.1) rfl 3 (by decide) (hts (.fieldLink RX6 25 "Archeloft" "systemList" "Ljava/util/ArrayList;") (by decide +kernel)) (fun _ h9 => h9) rfl dX6_system_9 ?_
  refine k_ip (k_V (As := []) (rest := []) ⟨hx, hb, hml, hown, hts⟩ hev hS (c_Jx4a65c_size_8abf5 l hY.1.1) (cwV 0 hts gX6_system_Jx4a65c_size_8abf5 rfl rfl rfl (by decide +kernel) ⟨Nat.le_of_ble_eq_true rfl, Nat.le_of_ble_eq_true rfl⟩) (x_recv hK ((hY.1.1.rec).choose_spec) rfl) rfl hl.1 (Nat.le_of_ble_eq_true rfl) dX6_system_12 (Nat.le_of_ble_eq_true rfl) (Nat.le_of_ble_eq_true rfl)) hS hnt hlk (fun _ _ h _ => h.elim) (Nat.le_of_ble_eq_true rfl) (Nat.le_of_ble_eq_true rfl) (fun rq3_ H3 locs3 hP hz3 hS => ?_)
  refine W.widen (k := 0 + 1 + 1) (n := 0 + 6 + 6) (Nat.le_refl _) (Nat.le_refl _) ?_
  obtain ⟨eH, er⟩ := hP
  have eH := eH.symm
  subst eH
  refine x_top (y := (nI ((sY M).1))) (er) ?_
  refine lv_bipush (v := nI 8) hx hb dX6_system_15 (by decide) ?_
  refine y_icmp_lt hx hb (by omega) (Nat.le_of_ble_eq_true rfl) (tgt := 30) dX6_system_17 (by decide) (fun c17 => ?_) (fun c17 => ?_)
  · have hdc := @dC_le zy.2.1 (sY M).1
    have hds := dS_le hY.1.2.1 hY.1.1.2.1 (show (sY M).1 < 64 by omega)
    obtain ⟨a1, ha1, e1⟩ := isS_of hsx1
    obtain ⟨a2, ha2, e2⟩ := isS_of hsx2
    have hl : lv_has ls 4 [(0, .ref b0), (1, .int (nI a1)), (2, .int x2)] := by
      have e9 : x1 = (nI a1) := e1
      rw [← e9]; exact hl
    have hl : lv_has ls 4 [(0, .ref b0), (1, .int (nI a1)), (2, .int (nI a2))] := by
      have e9 : x2 = (nI a2) := e2
      rw [← e9]; exact hl
    subst e1 e2
    refine lv_aload_n hx hb dX6_system_30 rfl (lv_at hl 0 rfl) ?_
    refine lv_iload_n hx hb dX6_system_31 rfl (lv_at hl 1 rfl) ?_
    refine lv_iload_n hx hb dX6_system_32 rfl (lv_at hl 2 rfl) ?_
    refine k_ip (k_V (As := [.int (nI a1), .int (nI a2)]) (rest := []) ⟨hx, hb, hml, hown, hts⟩ hev hS (c_X6_stageFor l hst hX hY iY ha1 ha2) (cwV 2 hts gX6_system_X6_stageFor rfl rfl rfl (by decide +kernel) ⟨Nat.le_of_ble_eq_true rfl, Nat.le_of_ble_eq_true rfl⟩) (x_recv hK hX.1 rfl) rfl hl.1 (Nat.le_of_ble_eq_true rfl) dX6_system_33 (Nat.le_of_ble_eq_true rfl) (Nat.le_of_ble_eq_true rfl)) hS hnt hlk (fun _ _ h _ => h.elim) (Nat.le_of_ble_eq_true rfl) (Nat.le_of_ble_eq_true rfl) (fun rq4_ H4 locs4 hP hz4 hS => ?_)
    refine W.widen (k := 0 + 1 + 1) (n := 0 + 6 + 6) (Nat.le_refl _) (Nat.le_refl _) ?_
    obtain ⟨eH, er3⟩ := hP
    have eH := eH.symm
    subst eH
    refine x_top (y := (nI ((stgTo (sY M) a1 a2 (sY M).1)))) (er3) ?_
    refine lv_istore_n (lv' := [(3, .int (nI ((stgTo (sY M) a1 a2 (sY M).1)))), (0, .ref b0), (1, .int (nI a1)), (2, .int (nI a2))]) hx hb dX6_system_36 rfl hl (by decide) rfl (fun ls hl => ?_)
    refine lv_aload_n hx hb dX6_system_37 rfl (lv_at hl 1 rfl) ?_
    refine x_get (C := RX6) (TT := TX6) (N := 6) (ci := 9) (v := .ref ((b0 + 4))) hx hb hts in_X6_system_RX6 hown hK (hX.1) rfl 3 (by decide) (hts (.fieldLink RX6 25 "Archeloft" "systemList" "Ljava/util/ArrayList;") (by decide +kernel)) (fun _ h9 => h9) rfl dX6_system_38 ?_
    refine x_new (C := RX4) (TT := TX4) (N := 3) (ci := 7) (fs := [.int 0, .int 0, .int 0]) hx hb hts in_X6_system_RX4 tyX4 tyX4_ok hown (hts (.classLink RX6 210 RX4) (by decide +kernel)) (hts (.instantiable RX4 3) (by decide +kernel)) (hts (.initialized RX4) (by decide +kernel)) hK hS rfl (by decide) (Nat.le_of_ble_eq_true rfl) (Nat.le_of_ble_eq_true rfl) dX6_system_41 (fun H5 ho5 hz5 hq5 hS => ?_)
    have k1 : KP H H5 := ⟨by omega, hq5⟩
    refine lv_dup hx hb dX6_system_44 rfl ?_
    refine lv_iload_n hx hb dX6_system_45 rfl (lv_at hl 2 rfl) ?_
    refine lv_iload_n hx hb dX6_system_46 rfl (lv_at hl 3 rfl) ?_
    refine lv_iload_n hx hb dX6_system_47 rfl (lv_at hl 0 rfl) ?_
    refine k_vp (k_I (As := [.int (nI a1), .int (nI a2), .int (nI ((stgTo (sY M) a1 a2 (sY M).1)))]) (rest := [.ref H.size, .ref ((b0 + 4))]) ⟨hx, hb, hml, hown, hts⟩ hev hS (c_X4_init l ho5 (hT.2.1 _ (Nat.le_refl _)) (nI a1) (nI a2) (nI (stgTo (sY M) a1 a2 (sY M).1))) (cwI 3 hts gX6_system_X4_init rfl rfl rfl (hts (.initialized RX4) (by decide +kernel)) (hts (.methodLink RX6 212 yX4_init) (by decide +kernel)) (hts (.instanceMethod yX4_init) (by decide +kernel)) rfl (by decide +kernel) ⟨Nat.le_of_ble_eq_true rfl, Nat.le_of_ble_eq_true rfl⟩) rfl hl.1 (Nat.le_of_ble_eq_true rfl) dX6_system_48 (Nat.le_of_ble_eq_true rfl) (Nat.le_of_ble_eq_true rfl)) hS hnt hlk (fun _ _ h _ => h.elim) (Nat.le_of_ble_eq_true rfl) (Nat.le_of_ble_eq_true rfl) (fun H6 locs6 hP hz6 hS => ?_)
    refine W.widen (k := 0 + 1 + 1 + 1) (n := 0 + 6 + 6 + 3) (Nat.le_refl _) (Nat.le_refl _) ?_
    obtain ⟨hoi, hzi, hqi⟩ := hP
    have k2 : KP H H6 := ⟨by omega, fun q9 h9 => (hqi q9 (by omega)).trans (hq5 q9 h9)⟩
    have hzj : H6.size = H.size + 1 := by rw [hzi, hz5]
    refine k_ip (k_V (As := [.ref H.size]) (rest := []) ⟨hx, hb, hml, hown, hts⟩ hev hS (c_addL l (hY.1.1.kept (k2.2 _ hY.1.1.lt.1) (k2.2 _ hY.1.1.lt.2)) hY.1.2.1.lt (hY.1.aa hT (by decide)) (hY.1.aA hT) (fun q9 h9 => hT.2.1 q9 (by omega)) (ci := 7) (rr := (RX4, TX4, 3)) (fun x hx2 => ⟨fun z => absurd (show (202 : Nat) = 200 by rw [← (hY.2 x hx2).2, ← hY.1.2.2.1, z]) (by decide), _, (hY.2 x hx2).1.kept (k2.2 _ (hY.2 x hx2).1.lt)⟩) rfl (by decide +kernel) hoi (fun z => absurd (hT.lt hY.1.2.2.1 (by decide)) (by omega))) (cwV 1 hts gX6_system_Jx4a65c_add_9ea2d rfl rfl rfl (by decide +kernel) ⟨Nat.le_of_ble_eq_true rfl, Nat.le_of_ble_eq_true rfl⟩) (x_recv hK (((hY.1.1.kept (k2.2 _ hY.1.1.lt.1) (k2.2 _ hY.1.1.lt.2)).rec).choose_spec) rfl) rfl hl.1 (Nat.le_of_ble_eq_true rfl) dX6_system_51 (by show _ ≤ (4 : Nat); omega) (by show _ ≤ (88 : Nat); omega)) hS hnt hlk (fun _ _ h _ => h.elim) (by show _ ≤ (4 : Nat); omega) (by show _ ≤ (88 : Nat); omega) (fun rq7_ H7 locs7 hP hz7 hS => ?_)
    obtain ⟨-, hL7, hz7, hq7⟩ := hP
    obtain ⟨tg1, arr1, cap1, t1, tx1, l1, v1, f1⟩ := Rec.ad hT hY.1 hY.2 (by decide) (by decide) (by omega) hoi hzj k2.2 hL7 hz7 hq7
    refine lv_pop hx hb dX6_system_54 rfl ?_
    refine lv_iload_n hx hb dX6_system_55 rfl (lv_at hl 0 rfl) ?_
    exact r_i hx hb hrt9 hlk hS (by omega) (by omega) dX6_system_56 (by
        rw [sys_0 ha1 ha2 hsx1 hsx2 (by omega)]
        refine ⟨rfl, rfl, tg1, (arr1, cap1, nu zy.2.2 (sY M).1 H.size), t1, tx1, ⟨l1, fun i hi => ?_⟩, f1⟩
        obtain ⟨v2, v3⟩ := v1 i hi
        refine ⟨?_, v3⟩
        show oc D _ (nu zy.2.2 (sY M).1 H.size i) 7 [.int (nI (nu (sY M).2.1 (sY M).1 a1 i)), .int (nI (nu (sY M).2.2.1 (sY M).1 a2 i)), .int (nI (nu (sY M).2.2.2 (sY M).1 (stgTo (sY M) a1 a2 (sY M).1) i))]
        by_cases c : i = (sY M).1
        · rw [if_pos c] at v2
          rw [c] at v2 ⊢
          simp only [nu_s] at v2 ⊢
          exact v2
        · rw [if_neg c] at v2
          rw [nu_n (f := (sY M).2.1) c, nu_n (f := (sY M).2.2.1) c, nu_n (f := (sY M).2.2.2) c]
          exact v2)
  · have h8 : (sY M).1 = 8 := by have := iY.1; omega
    exact k_thr (cls := "java/lang/IllegalStateException") (text := "there are 8 systems") (ik := 113) (is := 204) (ic := 117) hx hb hst hown hev hS (by decide +kernel) (hts (.classLink RX6 113 "java/lang/IllegalStateException") (by decide +kernel)) (hts (.initialized "java/lang/IllegalStateException") (by decide +kernel)) (by decide +kernel) (by decide +kernel) (fun w h => hts w (ta_X6_system_117 w h)) (by decide +kernel) (by decide +kernel) (hl.1.trans hml.symm) dX6_system_20 dX6_system_23 dX6_system_24 dX6_system_26 dX6_system_29 hnt (Nat.le_of_ble_eq_true rfl) (Nat.le_of_ble_eq_true rfl) (Nat.le_of_ble_eq_true rfl) (Nat.le_of_ble_eq_true rfl) hlk ((fun H1 h1 h2 => ⟨Or.inr ⟨rfl, by rw [sys_2 hsx1 hsx2 h8]; rfl⟩, h1, h2⟩)) (Nat.le_of_ble_eq_true rfl) (Nat.le_of_ble_eq_true rfl)
