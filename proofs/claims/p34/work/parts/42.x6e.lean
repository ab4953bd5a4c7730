set_option maxRecDepth 100000 in
theorem ta_X6_entityOf_247 : ∀ w ∈ atN, w ∈ wsX6_entityOf := by decide +kernel
set_option maxHeartbeats 4000000 in
set_option maxRecDepth 100000 in
theorem c_X6_entityOf (l : Launch) {D : va_G} {T : Nat → ClassId} {dE mi : Nat} (hst : l.stackTraces = false) {A : Nat → Prop} {H : Heap} {b0 : Nat} {wo : Option Nat} {tk : Int32} (hX : PX D T b0 H wo tk) {E : mE} (hE : PE D T b0 H E) (x : Int32) : vx_Met l yX6_entityOf wsX6_entityOf (rmL 6 1 6) (PcE D T dE mi A H [.ref b0, .int x]) (QQ A (fun r H1 => H1 = H ∧ ∃ sl, look E x = some sl ∧ r = some (ea b0 sl))) (XX A (XE H (fun E9 => E9 = "java/util/NoSuchElementException" ∧ look E x = none))) 1 6 A := by
  refine entry (cc := cX6_entityOf) (maxL := 3) (ret := (some (.object "Archeloft$Entity"))) (by decide) rfl (Nat.le_of_ble_eq_true rfl) ?_
  intro p e s m args below meth c hx hb hrt9 hml hown hts hlk hnt hnm hev hS ls hl
  have hown : s.vm.findClass RX6 = some m.cls := hown
  have hK := hev.1
  have hl : lv_has ls 3 [(0, .ref b0), (1, .int x)] := hl
  refine lv_aload_n hx hb dX6_entityOf_0 rfl (lv_at hl 0 rfl) ?_
  refine lv_iload_n hx hb dX6_entityOf_1 rfl (lv_at hl 1 rfl) ?_
  refine k_qp (k_V (As := [.int x]) (rest := []) ⟨hx, hb, hml, hown, hts⟩ hev hS (c_X6_slotOf l hst hX x) (cwV 1 hts gX6_entityOf_X6_slotOf rfl rfl rfl (by decide +kernel) ⟨Nat.le_of_ble_eq_true rfl, Nat.le_of_ble_eq_true rfl⟩) (x_recv hK hX.1 rfl) rfl hl.1 (Nat.le_of_ble_eq_true rfl) dX6_entityOf_2 (Nat.le_of_ble_eq_true rfl) (Nat.le_of_ble_eq_true rfl)) hS hnt hlk (fun _ _ h _ => h.elim) (Nat.le_of_ble_eq_true rfl) (Nat.le_of_ble_eq_true rfl) (fun rq1_ H1 locs1 hP hz1 hS => ?_)
  refine W.widen (k := 0) (n := 0) (Nat.le_refl _) (Nat.le_refl _) ?_
  obtain ⟨eH, er⟩ := hP
  have eH := eH.symm
  subst eH
  refine x_tov (y := .ref ((ea b0 (x.toBitVec.toNat % 32)))) (by rw [er]; rfl) ?_
  have hm32 : (x.toBitVec.toNat % 32) < 32 := Nat.mod_lt _ (by decide)
  refine lv_astore_n (lv' := [(2, .ref ((ea b0 (x.toBitVec.toNat % 32)))), (0, .ref b0), (1, .int x)]) hx hb dX6_entityOf_5 rfl hl (by decide) rfl (fun ls hl => ?_)
  refine lv_aload_n hx hb dX6_entityOf_6 rfl (lv_at hl 0 rfl) ?_
  refine lv_iload_n hx hb dX6_entityOf_7 rfl (lv_at hl 2 rfl) ?_
  refine k_ip (k_V (As := [.int x]) (rest := []) ⟨hx, hb, hml, hown, hts⟩ hev hS (c_X1_isOf l (hE (x.toBitVec.toNat % 32) hm32).1 x) (cwV 1 hts gX6_entityOf_X1_isOf rfl rfl rfl (by decide +kernel) ⟨Nat.le_of_ble_eq_true rfl, Nat.le_of_ble_eq_true rfl⟩) (x_recv hK (hE (x.toBitVec.toNat % 32) hm32).1 rfl) rfl hl.1 (Nat.le_of_ble_eq_true rfl) dX6_entityOf_8 (Nat.le_of_ble_eq_true rfl) (Nat.le_of_ble_eq_true rfl)) hS hnt hlk (fun _ _ h _ => h.elim) (Nat.le_of_ble_eq_true rfl) (Nat.le_of_ble_eq_true rfl) (fun rq2_ H2 locs2 hP hz2 hS => ?_)
  refine W.widen (k := 0) (n := 0) (Nat.le_refl _) (Nat.le_refl _) ?_
  obtain ⟨eH, er3⟩ := hP
  have eH := eH.symm
  subst eH
  refine x_top (y := (bI ((look E x).isSome))) (by rw [er3, look_b]) ?_
  refine y_bif_ne hx hb (tgt := 24) dX6_entityOf_11 (by decide) (fun c11 => ?_) (fun c11 => ?_)
  · refine lv_aload_n hx hb dX6_entityOf_24 rfl (lv_at hl 0 rfl) ?_
    exact r_q (r := some (ea b0 (x.toBitVec.toNat % 32))) hx hb hrt9 (Or.inl ⟨_, rfl⟩) hlk hS (Nat.le_of_ble_eq_true rfl) (Nat.le_of_ble_eq_true rfl) dX6_entityOf_25 (⟨rfl, _, look_k c11, rfl⟩)
  · exact k_thrN (text := "the handle is of no entity") (ik := 243) (is := 245) hx hb hst hown hev hS (by decide +kernel) (hts (.classLink RX6 243 "java/util/NoSuchElementException") (by decide +kernel)) (hts (.initialized "java/util/NoSuchElementException") (by decide +kernel)) (by decide +kernel) (by decide +kernel) (fun w h => hts w (ta_X6_entityOf_247 w h)) (by decide +kernel) (by decide +kernel) (hl.1.trans hml.symm) dX6_entityOf_14 dX6_entityOf_17 dX6_entityOf_18 dX6_entityOf_20 dX6_entityOf_23 hnt (Nat.le_of_ble_eq_true rfl) (Nat.le_of_ble_eq_true rfl) (Nat.le_of_ble_eq_true rfl) (Nat.le_of_ble_eq_true rfl) hlk ((fun H1 h1 h2 => ⟨⟨rfl, look_z c11⟩, h1, h2⟩)) (Nat.le_of_ble_eq_true rfl) (Nat.le_of_ble_eq_true rfl)
set_option maxRecDepth 100000 in
theorem in_X6_entities_RX1 : ∀ w ∈ wsX10, w ∈ wsX6_entities := by decide +kernel
set_option maxRecDepth 100000 in
theorem in_X6_entities_RX6 : ∀ w ∈ wsX60, w ∈ wsX6_entities := by decide +kernel
set_option maxHeartbeats 4000000 in
set_option maxRecDepth 100000 in
theorem c_X6_entities (l : Launch) {D : va_G} {T : Nat → ClassId} {dE mi : Nat} (hst : l.stackTraces = false) {A : Nat → Prop} {H : Heap} {b0 : Nat} {wo : Option Nat} {tk : Int32} (hX : PX D T b0 H wo tk) {E : mE} (hE : PE D T b0 H E) : vx_Met l yX6_entities wsX6_entities (rmL 0 0 0) (PcE D T dE mi A H [.ref b0]) (QI A (fun r H1 => H1 = H ∧ r = nI (cnt (mAl E) 32))) (XX A (XN)) 0 0 A := by
  refine entry (cc := cX6_entities) (maxL := 3) (ret := (some .int)) (by decide) rfl (Nat.le_of_ble_eq_true rfl) ?_
  intro p e s m args below meth c hx hb hrt9 hml hown hts hlk hnt hnm hev hS ls hl
  have hown : s.vm.findClass RX6 = some m.cls := hown
  have hK := hev.1
  have hl : lv_has ls 3 [(0, .ref b0)] := hl
  refine lv_iconst (v := nI 0) hx hb dX6_entities_0 (by decide) ?_
  refine lv_istore_n (lv' := [(1, .int (nI 0)), (0, .ref b0)]) hx hb dX6_entities_1 rfl hl (by decide) rfl (fun ls hl => ?_)
  refine lv_iconst (v := nI 0) hx hb dX6_entities_2 (by decide) ?_
  refine lv_istore_n (lv' := [(2, .int (nI 0)), (1, .int (nI 0)), (0, .ref b0)]) hx hb dX6_entities_3 rfl hl (by decide) rfl (fun ls hl => ?_)
  have loop4 : ∀ (n : Nat) (i : Nat), 32 - i < n → (i ≤ 32) → ∀ (ls : Array Slot), lv_has ls 3 [(2, .int (nI i)), (1, .int (nI (cnt (mAl E) i))), (0, .ref b0)] → W p l e (rmL 0 0 0) s m args below meth c H [] (0) (0) (vx_MQ below (QI A (fun r H1 => H1 = H ∧ r = nI (cnt (mAl E) 32))) (XX A (XN)) args s 0 0 A) (F0 m 4 ls []) := by
    intro n
    induction n with
    | zero => intro i hfuel; exact absurd hfuel (Nat.not_lt_zero _)
    | succ n ih4 =>
      intro i hfuel hi ls hl
      refine lv_iload_n hx hb dX6_entities_4 rfl (lv_at hl 0 rfl) ?_
      refine lv_bipush (v := nI 32) hx hb dX6_entities_5 (by decide) ?_
      refine y_icmp_ge hx hb (by omega) (Nat.le_of_ble_eq_true rfl) (tgt := 31) dX6_entities_7 (by decide) (fun c7 => ?_) (fun c7 => ?_)
      · refine lv_iload_n hx hb dX6_entities_31 rfl (lv_at hl 1 rfl) ?_
        exact r_i hx hb hrt9 hlk hS (Nat.le_of_ble_eq_true rfl) (Nat.le_of_ble_eq_true rfl) dX6_entities_32 (⟨rfl, by rw [show i = 32 by omega]⟩)
      · refine lv_aload_n hx hb dX6_entities_10 rfl (lv_at hl 2 rfl) ?_
        refine x_get (C := RX6) (TT := TX6) (N := 6) (ci := 9) (v := .ref ((b0 + 1))) hx hb hts in_X6_entities_RX6 hown hK (hX.1) rfl 0 (by decide) (hts (.fieldLink RX6 11 "Archeloft" "slots" "[LArcheloft$Entity;") (by decide +kernel)) (fun _ h9 => h9) rfl dX6_entities_11 ?_
        refine lv_iload_n hx hb dX6_entities_14 rfl (lv_at hl 0 rfl) ?_
        refine x_eald (i := i) hx hb hK hX.2 (by omega) (by decide) dX6_entities_15 ?_
        refine x_tov (y := .ref (ea b0 i)) rfl ?_
        refine x_getN (C := RX1) (TT := TX1) (N := 6) (ci := 4) (v := .int (bI ((mAl E i)))) hx hb hts in_X6_entities_RX1 hown hK ((hE i c7).1) rfl 3 (by decide) (hev.2.2.2.2.1.2 ("Archeloft", 46, "Archeloft$Entity", "there", "Z") (by decide +kernel)) (fun _ h9 => h9) rfl dX6_entities_16 ?_
        refine y_bif_eq hx hb (tgt := 25) dX6_entities_19 (by decide) (fun c19 => ?_) (fun c19 => ?_)
        · have hl : lv_has ls 3 [(2, .int (nI i)), (1, .int (nI (cnt (mAl E) (i + 1)))), (0, .ref b0)] := by
            have e9 : (nI (cnt (mAl E) i)) = (nI (cnt (mAl E) (i + 1))) := by rw [cnt_f c19]
            rw [← e9]; exact hl
          refine lv_iinc (v := (nI (i + 1))) (lv' := [(2, .int (nI (i + 1))), (1, .int (nI (cnt (mAl E) (i + 1)))), (0, .ref b0)]) hx hb dX6_entities_25 hl (k := 0) rfl (nI_inc _) (by decide) rfl (fun ls hl => ?_)
          refine lv_goto (tgt := 4) hx hb dX6_entities_28 (by decide) ?_
          exact ih4 (i + 1) (by omega) (by omega) ls (lv_sub hl [0, 1, 2] rfl)
        · refine lv_iinc (v := (nI (cnt (mAl E) i + 1))) (lv' := [(1, .int (nI (cnt (mAl E) i + 1))), (2, .int (nI i)), (0, .ref b0)]) hx hb dX6_entities_22 hl (k := 1) rfl (nI_inc _) (by decide) rfl (fun ls hl => ?_)
          have hl : lv_has ls 3 [(1, .int (nI (cnt (mAl E) (i + 1)))), (2, .int (nI i)), (0, .ref b0)] := by
            have e9 : (nI (cnt (mAl E) i + 1)) = (nI (cnt (mAl E) (i + 1))) := by rw [cnt_t c19]
            rw [← e9]; exact hl
          refine lv_iinc (v := (nI (i + 1))) (lv' := [(2, .int (nI (i + 1))), (1, .int (nI (cnt (mAl E) (i + 1)))), (0, .ref b0)]) hx hb dX6_entities_25 hl (k := 1) rfl (nI_inc _) (by decide) rfl (fun ls hl => ?_)
          refine lv_goto (tgt := 4) hx hb dX6_entities_28 (by decide) ?_
          exact ih4 (i + 1) (by omega) (by omega) ls (lv_sub hl [0, 1, 2] rfl)
  exact loop4 (32 + 1) 0 (Nat.lt_succ_self _) (by omega) ls (lv_sub hl [0, 1, 2] rfl)
