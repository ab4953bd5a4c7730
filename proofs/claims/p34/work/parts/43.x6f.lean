theorem omap_ea {o : Option Nat} {b k : Nat} (h : o.map (ea b) = some (ea b k)) : o = some k := by
  obtain ⟨q, e1, e2⟩ := omap_some h
  rw [e1, ea_inj e2]
set_option maxRecDepth 100000 in
theorem ta_X6_lowestFree_117 : ∀ w ∈ (vx_atS RX6 117 "java/lang/IllegalStateException" ["java/lang/RuntimeException", "java/lang/Exception"]).filter goodWord, w ∈ wsX6_lowestFree := by decide +kernel
set_option maxRecDepth 100000 in
theorem in_X6_lowestFree_RX1 : ∀ w ∈ wsX10, w ∈ wsX6_lowestFree := by decide +kernel
set_option maxRecDepth 100000 in
theorem in_X6_lowestFree_RX6 : ∀ w ∈ wsX60, w ∈ wsX6_lowestFree := by decide +kernel
set_option maxHeartbeats 4000000 in
set_option maxRecDepth 100000 in
theorem c_X6_lowestFree (l : Launch) {D : va_G} {T : Nat → ClassId} {dE mi : Nat} (hst : l.stackTraces = false) {A : Nat → Prop} {H : Heap} {b0 : Nat} {wo : Option Nat} {tk : Int32} (hX : PX D T b0 H wo tk) {E : mE} (hE : PE D T b0 H E) : vx_Met l yX6_lowestFree wsX6_lowestFree (rmL 6 1 6) (PcE D T dE mi A H [.ref b0]) (QQ A (fun r H1 => H1 = H ∧ free E < 32 ∧ r = some (ea b0 (free E)))) (XX A (XE H (fun E9 => E9 = "java/lang/IllegalStateException" ∧ free E = 32))) 1 6 A := by
  refine entry (cc := cX6_lowestFree) (maxL := 2) (ret := (some (.object "Archeloft$Entity"))) (by decide) rfl (Nat.le_of_ble_eq_true rfl) ?_
  intro p e s m args below meth c hx hb hrt9 hml hown hts hlk hnt hnm hev hS ls hl
  have hown : s.vm.findClass RX6 = some m.cls := hown
  have hK := hev.1
  have hl : lv_has ls 2 [(0, .ref b0)] := hl
  refine lv_iconst (v := nI 0) hx hb dX6_lowestFree_0 (by decide) ?_
  refine lv_istore_n (lv' := [(1, .int (nI 0)), (0, .ref b0)]) hx hb dX6_lowestFree_1 rfl hl (by decide) rfl (fun ls hl => ?_)
  have loop2 : ∀ (n : Nat) (i : Nat), 32 - i < n → (i ≤ 32) → (∀ j, j < i → mAl E j = true) → ∀ (ls : Array Slot), lv_has ls 2 [(1, .int (nI i)), (0, .ref b0)] → W p l e (rmL 6 1 6) s m args below meth c H [] (0) (0) (vx_MQ below (QQ A (fun r H1 => H1 = H ∧ free E < 32 ∧ r = some (ea b0 (free E)))) (XX A (XE H (fun E9 => E9 = "java/lang/IllegalStateException" ∧ free E = 32))) args s 1 6 A) (F0 m 2 ls []) := by
    intro n
    induction n with
    | zero => intro i hfuel; exact absurd hfuel (Nat.not_lt_zero _)
    | succ n ih2 =>
      intro i hfuel hi ha ls hl
      refine lv_iload_n hx hb dX6_lowestFree_2 rfl (lv_at hl 0 rfl) ?_
      refine lv_bipush (v := nI 32) hx hb dX6_lowestFree_3 (by decide) ?_
      refine y_icmp_ge hx hb (by omega) (Nat.le_of_ble_eq_true rfl) (tgt := 33) dX6_lowestFree_5 (by decide) (fun c5 => ?_) (fun c5 => ?_)
      · exact k_thr (cls := "java/lang/IllegalStateException") (text := "no slot is free") (ik := 113) (is := 250) (ic := 117) hx hb hst hown hev hS (by decide +kernel) (hts (.classLink RX6 113 "java/lang/IllegalStateException") (by decide +kernel)) (hts (.initialized "java/lang/IllegalStateException") (by decide +kernel)) (by decide +kernel) (by decide +kernel) (fun w h => hts w (ta_X6_lowestFree_117 w h)) (by decide +kernel) (by decide +kernel) (hl.1.trans hml.symm) dX6_lowestFree_33 dX6_lowestFree_36 dX6_lowestFree_37 dX6_lowestFree_39 dX6_lowestFree_42 hnt (Nat.le_of_ble_eq_true rfl) (Nat.le_of_ble_eq_true rfl) (Nat.le_of_ble_eq_true rfl) (Nat.le_of_ble_eq_true rfl) hlk ((fun H1 h1 h2 => ⟨⟨rfl, (free_is hi ha (Or.inl (show i = 32 by omega))).trans (by omega)⟩, h1, h2⟩)) (Nat.le_of_ble_eq_true rfl) (Nat.le_of_ble_eq_true rfl)
      · refine lv_aload_n hx hb dX6_lowestFree_8 rfl (lv_at hl 1 rfl) ?_
        refine x_get (C := RX6) (TT := TX6) (N := 6) (ci := 9) (v := .ref ((b0 + 1))) hx hb hts in_X6_lowestFree_RX6 hown hK (hX.1) rfl 0 (by decide) (hts (.fieldLink RX6 11 "Archeloft" "slots" "[LArcheloft$Entity;") (by decide +kernel)) (fun _ h9 => h9) rfl dX6_lowestFree_9 ?_
        refine lv_iload_n hx hb dX6_lowestFree_12 rfl (lv_at hl 0 rfl) ?_
        refine x_eald (i := i) hx hb hK hX.2 (by omega) (by decide) dX6_lowestFree_13 ?_
        refine x_tov (y := .ref (ea b0 i)) rfl ?_
        refine x_getN (C := RX1) (TT := TX1) (N := 6) (ci := 4) (v := .int (bI ((mAl E i)))) hx hb hts in_X6_lowestFree_RX1 hown hK ((hE i c5).1) rfl 3 (by decide) (hev.2.2.2.2.1.2 ("Archeloft", 46, "Archeloft$Entity", "there", "Z") (by decide +kernel)) (fun _ h9 => h9) rfl dX6_lowestFree_14 ?_
        refine y_bif_ne hx hb (tgt := 27) dX6_lowestFree_17 (by decide) (fun c17 => ?_) (fun c17 => ?_)
        · refine lv_iinc (v := (nI (i + 1))) (lv' := [(1, .int (nI (i + 1))), (0, .ref b0)]) hx hb dX6_lowestFree_27 hl (k := 0) rfl (nI_inc _) (by decide) rfl (fun ls hl => ?_)
          refine lv_goto (tgt := 2) hx hb dX6_lowestFree_30 (by decide) ?_
          exact ih2 (i + 1) (by omega) (by omega) (fun j hj => by rcases Nat.lt_succ_iff_lt_or_eq.mp hj with q | q; exact ha j q; rw [q]; exact c17) ls (lv_sub hl [0, 1] rfl)
        · refine lv_aload_n hx hb dX6_lowestFree_20 rfl (lv_at hl 1 rfl) ?_
          refine x_get (C := RX6) (TT := TX6) (N := 6) (ci := 9) (v := .ref ((b0 + 1))) hx hb hts in_X6_lowestFree_RX6 hown hK (hX.1) rfl 0 (by decide) (hts (.fieldLink RX6 11 "Archeloft" "slots" "[LArcheloft$Entity;") (by decide +kernel)) (fun _ h9 => h9) rfl dX6_lowestFree_21 ?_
          refine lv_iload_n hx hb dX6_lowestFree_24 rfl (lv_at hl 0 rfl) ?_
          refine x_eald (i := i) hx hb hK hX.2 (by omega) (by decide) dX6_lowestFree_25 ?_
          refine x_tov (y := .ref (ea b0 i)) rfl ?_
          exact r_q (r := some (ea b0 i)) hx hb hrt9 (Or.inl ⟨_, rfl⟩) hlk hS (Nat.le_of_ble_eq_true rfl) (Nat.le_of_ble_eq_true rfl) dX6_lowestFree_26 (⟨rfl, by rw [free_is hi ha (Or.inr c17)]; exact c5, by rw [free_is hi ha (Or.inr c17)]⟩)
  exact loop2 (32 + 1) 0 (Nat.lt_succ_self _) (by omega) (fun j hj => absurd hj (Nat.not_lt_zero j)) ls (lv_sub hl [0, 1] rfl)
set_option maxRecDepth 100000 in
theorem in_X6_children_RX1 : ∀ w ∈ wsX10, w ∈ wsX6_children := by decide +kernel
set_option maxRecDepth 100000 in
theorem in_X6_children_RX6 : ∀ w ∈ wsX60, w ∈ wsX6_children := by decide +kernel
set_option maxHeartbeats 4000000 in
set_option maxRecDepth 100000 in
theorem c_X6_children (l : Launch) {D : va_G} {T : Nat → ClassId} {dE mi : Nat} (hst : l.stackTraces = false) {A : Nat → Prop} {H : Heap} {b0 : Nat} {wo : Option Nat} {tk : Int32} (hX : PX D T b0 H wo tk) {E : mE} (hE : PE D T b0 H E) (iE : InvE E) (x : Int32) : vx_Met l yX6_children wsX6_children (rmL 7 1 6) (PcE D T dE mi A H [.ref b0, .int x]) (QI A (fun r H1 => H1 = H ∧ ∃ sl, look E x = some sl ∧ r = chl E sl 32)) (XX A (XE H (fun E9 => E9 = "java/util/NoSuchElementException" ∧ look E x = none))) 1 6 A := by
  refine entry (cc := cX6_children) (maxL := 5) (ret := (some .int)) (by decide) rfl (Nat.le_of_ble_eq_true rfl) ?_
  intro p e s m args below meth c hx hb hrt9 hml hown hts hlk hnt hnm hev hS ls hl
  have hown : s.vm.findClass RX6 = some m.cls := hown
  have hK := hev.1
  have hl : lv_has ls 5 [(0, .ref b0), (1, .int x)] := hl
  refine lv_aload_n hx hb dX6_children_0 rfl (lv_at hl 0 rfl) ?_
  refine lv_iload_n hx hb dX6_children_1 rfl (lv_at hl 1 rfl) ?_
  refine k_qp (k_V (As := [.int x]) (rest := []) ⟨hx, hb, hml, hown, hts⟩ hev hS (c_X6_entityOf l hst hX hE x) (cwV 1 hts gX6_children_X6_entityOf rfl rfl rfl (by decide +kernel) ⟨Nat.le_of_ble_eq_true rfl, Nat.le_of_ble_eq_true rfl⟩) (x_recv hK hX.1 rfl) rfl hl.1 (Nat.le_of_ble_eq_true rfl) dX6_children_2 (Nat.le_of_ble_eq_true rfl) (Nat.le_of_ble_eq_true rfl)) hS hnt hlk (fun E9 H9 h9 z9 => ⟨⟨h9.1.1, h9.1.2⟩, h9.2⟩) (Nat.le_of_ble_eq_true rfl) (Nat.le_of_ble_eq_true rfl) (fun rq1_ H1 locs1 hP hz1 hS => ?_)
  obtain ⟨eH, sl, hlk9, er⟩ := hP
  have eH := eH.symm
  subst eH
  refine x_tov (y := .ref ((ea b0 sl))) (by rw [er]; rfl) ?_
  obtain ⟨hs32, hsal, -⟩ := look_some hlk9
  refine lv_astore_n (lv' := [(2, .ref ((ea b0 sl))), (0, .ref b0), (1, .int x)]) hx hb dX6_children_5 rfl hl (by decide) rfl (fun ls hl => ?_)
  refine lv_iconst (v := nI 0) hx hb dX6_children_6 (by decide) ?_
  refine lv_istore_n (lv' := [(3, .int (nI 0)), (2, .ref ((ea b0 sl))), (0, .ref b0), (1, .int x)]) hx hb dX6_children_7 rfl hl (by decide) rfl (fun ls hl => ?_)
  refine lv_iconst (v := nI 0) hx hb dX6_children_8 (by decide) ?_
  refine lv_istore (lv' := [(4, .int (nI 0)), (3, .int (nI 0)), (2, .ref ((ea b0 sl))), (0, .ref b0), (1, .int x)]) hx hb dX6_children_9 hl (by decide) rfl (fun ls hl => ?_)
  have loop11 : ∀ (n : Nat) (i : Nat), 32 - i < n → (i ≤ 32) → ∀ (ls : Array Slot), lv_has ls 5 [(4, .int (nI i)), (3, .int ((chl E sl i))), (2, .ref ((ea b0 sl))), (0, .ref b0), (1, .int x)] → W p l e (rmL 7 1 6) s m args below meth c H locs1 (0 + 1) (0 + 6) (vx_MQ below (QI A (fun r H1 => H1 = H ∧ ∃ sl, look E x = some sl ∧ r = chl E sl 32)) (XX A (XE H (fun E9 => E9 = "java/util/NoSuchElementException" ∧ look E x = none))) args s 1 6 A) (F0 m 11 ls []) := by
    intro n
    induction n with
    | zero => intro i hfuel; exact absurd hfuel (Nat.not_lt_zero _)
    | succ n ih11 =>
      intro i hfuel hi ls hl
      refine lv_iload hx hb dX6_children_11 (lv_at hl 0 rfl) ?_
      refine lv_bipush (v := nI 32) hx hb dX6_children_13 (by decide) ?_
      refine y_icmp_ge hx hb (by omega) (Nat.le_of_ble_eq_true rfl) (tgt := 45) dX6_children_15 (by decide) (fun c15 => ?_) (fun c15 => ?_)
      · refine lv_iload_n hx hb dX6_children_45 rfl (lv_at hl 1 rfl) ?_
        exact r_i hx hb hrt9 hlk hS (Nat.le_of_ble_eq_true rfl) (Nat.le_of_ble_eq_true rfl) dX6_children_46 (⟨rfl, sl, hlk9, by rw [show i = 32 by omega]⟩)
      · refine lv_aload_n hx hb dX6_children_18 rfl (lv_at hl 3 rfl) ?_
        refine x_get (C := RX6) (TT := TX6) (N := 6) (ci := 9) (v := .ref ((b0 + 1))) hx hb hts in_X6_children_RX6 hown hK (hX.1) rfl 0 (by decide) (hts (.fieldLink RX6 11 "Archeloft" "slots" "[LArcheloft$Entity;") (by decide +kernel)) (fun _ h9 => h9) rfl dX6_children_19 ?_
        refine lv_iload hx hb dX6_children_22 (lv_at hl 0 rfl) ?_
        refine x_eald (i := i) hx hb hK hX.2 (by omega) (by decide) dX6_children_24 ?_
        refine x_tov (y := .ref (ea b0 i)) rfl ?_
        refine x_getN (C := RX1) (TT := TX1) (N := 6) (ci := 4) (v := va_rf (((mPar E i).map (ea b0)))) hx hb hts in_X6_children_RX1 hown hK ((hE i c15).1) rfl 4 (by decide) (hev.2.2.2.2.1.2 ("Archeloft", 96, "Archeloft$Entity", "parent", "LArcheloft$Entity;") (by decide +kernel)) (fun _ h9 => h9) rfl dX6_children_25 ?_
        refine lv_aload_n hx hb dX6_children_28 rfl (lv_at hl 2 rfl) ?_
        refine lv_acmp_ne (rx := ((mPar E i).map (ea b0))) (ry := (some (ea b0 sl))) (tgt := 39) hx hb dX6_children_29 (by decide) (fun c29 => ?_) (fun c29 => ?_)
        · have hl : lv_has ls 5 [(4, .int (nI i)), (3, .int ((chl E sl (i + 1)))), (2, .ref ((ea b0 sl))), (0, .ref b0), (1, .int x)] := by
            have e9 : ((chl E sl i)) = ((chl E sl (i + 1))) := by rw [chl_f (fun z => c29 (by rw [z]; rfl))]
            rw [← e9]; exact hl
          refine lv_iinc (v := (nI (i + 1))) (lv' := [(4, .int (nI (i + 1))), (3, .int ((chl E sl (i + 1)))), (2, .ref ((ea b0 sl))), (0, .ref b0), (1, .int x)]) hx hb dX6_children_39 hl (k := 0) rfl (nI_inc _) (by decide) rfl (fun ls hl => ?_)
          refine lv_goto (tgt := 11) hx hb dX6_children_42 (by decide) ?_
          exact ih11 (i + 1) (by omega) (by omega) ls (lv_sub hl [0, 1, 2, 3, 4] rfl)
        · refine lv_iload_n hx hb dX6_children_32 rfl (lv_at hl 1 rfl) ?_
          refine lv_iconst (v := nI 1) hx hb dX6_children_33 (by decide) ?_
          refine lv_iload hx hb dX6_children_34 (lv_at hl 0 rfl) ?_
          refine lv_ishl hx hb dX6_children_36 ?_
          refine lv_ior hx hb dX6_children_37 ?_
          refine lv_istore_n (lv' := [(3, .int (((chl E sl i)) ||| ((nI 1) <<< ((nI i) &&& 31)))), (4, .int (nI i)), (2, .ref ((ea b0 sl))), (0, .ref b0), (1, .int x)]) hx hb dX6_children_38 rfl hl (by decide) rfl (fun ls hl => ?_)
          have hl : lv_has ls 5 [(3, .int ((chl E sl (i + 1)))), (4, .int (nI i)), (2, .ref ((ea b0 sl))), (0, .ref b0), (1, .int x)] := by
            have e9 : (((chl E sl i)) ||| ((nI 1) <<< ((nI i) &&& 31))) = ((chl E sl (i + 1))) := by rw [chl_t (omap_ea c29)]
            rw [← e9]; exact hl
          refine lv_iinc (v := (nI (i + 1))) (lv' := [(4, .int (nI (i + 1))), (3, .int ((chl E sl (i + 1)))), (2, .ref ((ea b0 sl))), (0, .ref b0), (1, .int x)]) hx hb dX6_children_39 hl (k := 1) rfl (nI_inc _) (by decide) rfl (fun ls hl => ?_)
          refine lv_goto (tgt := 11) hx hb dX6_children_42 (by decide) ?_
          exact ih11 (i + 1) (by omega) (by omega) ls (lv_sub hl [0, 1, 2, 3, 4] rfl)
  exact loop11 (32 + 1) 0 (Nat.lt_succ_self _) (by omega) ls (lv_sub hl [0, 1, 2, 3, 4] rfl)
