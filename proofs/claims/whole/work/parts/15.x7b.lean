set_option maxRecDepth 100000 in
theorem in_X7_leaves_RX7 : ∀ w ∈ wsX70, w ∈ wsX7_leaves := by decide +kernel
set_option maxHeartbeats 4000000 in
set_option maxRecDepth 100000 in
theorem c_X7_leaves (l : Launch) {D : va_G} {T : Nat → ClassId} {dE mi : Nat} {g : Nat} {S : Nat → Int32} {Y : Nat → Nat → Int32} {H : Heap} (hR : RM D T g S Y H) {R : mR} (hr : RelR S Y R) (hk : okR R) {k d r : Nat} (hk32 : k < 32) (hd : d < 64) (h3 : Y 3 k = nI d) (hrow : row R d = r) (hlt : r < rN R) (hz : 0 < rZ R r) : vx_Met l yX7_leaves wsX7_leaves (rmL 0 0 0) (PcE D T dE mi (AM g) H [.ref g, .int (nI k)]) (QV (AM g) (fun H1 => ∃ Y1, RM D T g S Y1 H1 ∧ RelR S Y1 (rowDel R r k) ∧ ∀ j, j ≠ 9 → j ≠ 10 → Y1 j = Y j)) (XX (AM g) (XN)) 0 0 (AM g) := by
  refine entry (cc := cX7_leaves) (maxL := 5) (ret := none) (by decide) rfl (Nat.le_of_ble_eq_true rfl) ?_
  intro p e s m args below meth c hx hb hrt9 hml hown hts hlk hnt hnm hev hS ls hl
  have hown : s.vm.findClass RX7 = some m.cls := hown
  have hK := hev.1
  have hl : lv_has ls 5 [(0, .ref g), (1, .int (nI k))] := hl
  have hz2 := hk.z hlt
  have h64 := hk.le
  have h7 : Y 7 d = nI r := by rw [hr.2.1 d hd, hrow, if_pos hlt]
  have h9 : Y 9 r = nI (rZ R r) := by rw [hr.2.2.2.1 r (by omega), if_pos hlt]
  refine lv_aload_n hx hb dX7_leaves_0 rfl (lv_at hl 0 rfl) ?_
  refine m_get hx hb hts in_X7_leaves_RX7 hown hK hR 8 (by decide) (hts (.fieldLink RX7 29 "ArcheloftModel" "rowOf" "[I") (by decide +kernel)) rfl (v := .ref (g + 7)) rfl dX7_leaves_1 ?_
  refine lv_aload_n hx hb dX7_leaves_4 rfl (lv_at hl 0 rfl) ?_
  refine m_get hx hb hts in_X7_leaves_RX7 hown hK hR 4 (by decide) (hts (.fieldLink RX7 17 "ArcheloftModel" "kinds" "[I") (by decide +kernel)) rfl (v := .ref (g + 3)) rfl dX7_leaves_5 ?_
  refine lv_iload_n hx hb dX7_leaves_8 rfl (lv_at hl 1 rfl) ?_
  refine m_ld3 (i := k) hx hb hK hR (by omega) dX7_leaves_9 ?_
  refine x_top (y := (nI d)) (h3) ?_
  refine m_ld7 (i := d) hx hb hK hR (by omega) dX7_leaves_10 ?_
  refine x_top (y := (nI r)) (h7) ?_
  refine lv_istore_n (lv' := [(2, .int (nI r)), (0, .ref g), (1, .int (nI k))]) hx hb dX7_leaves_11 rfl hl (by decide) rfl (fun ls hl => ?_)
  refine lv_aload_n hx hb dX7_leaves_12 rfl (lv_at hl 1 rfl) ?_
  refine m_get hx hb hts in_X7_leaves_RX7 hown hK hR 10 (by decide) (hts (.fieldLink RX7 35 "ArcheloftModel" "size" "[I") (by decide +kernel)) rfl (v := .ref (g + 9)) rfl dX7_leaves_13 ?_
  refine lv_iload_n hx hb dX7_leaves_16 rfl (lv_at hl 0 rfl) ?_
  refine lv_dup2_11 hx hb dX7_leaves_17 rfl rfl ?_
  refine m_ld9 (i := r) hx hb hK hR (by omega) dX7_leaves_18 ?_
  refine x_top (y := (nI (rZ R r))) (h9) ?_
  refine lv_iconst (v := nI 1) hx hb dX7_leaves_19 (by decide) ?_
  refine y_isub hx hb (by omega) dX7_leaves_20 ?_
  refine m_st9 (i := r) (v := (nI ((rZ R r) - 1))) hx hb hK hS hR (by omega) dX7_leaves_21 (fun H1 locs1 hR hS => ?_)
  refine lv_aload_n hx hb dX7_leaves_22 rfl (lv_at hl 1 rfl) ?_
  refine m_get hx hb hts in_X7_leaves_RX7 hown hK hR 11 (by decide) (hts (.fieldLink RX7 38 "ArcheloftModel" "places" "[I") (by decide +kernel)) rfl (v := .ref (g + 10)) rfl dX7_leaves_23 ?_
  refine lv_bipush (v := nI 32) hx hb dX7_leaves_26 (by decide) ?_
  refine lv_iload_n hx hb dX7_leaves_28 rfl (lv_at hl 0 rfl) ?_
  refine y_imul hx hb dX7_leaves_29 ?_
  refine lv_aload_n hx hb dX7_leaves_30 rfl (lv_at hl 1 rfl) ?_
  refine m_get hx hb hts in_X7_leaves_RX7 hown hK hR 10 (by decide) (hts (.fieldLink RX7 35 "ArcheloftModel" "size" "[I") (by decide +kernel)) rfl (v := .ref (g + 9)) rfl dX7_leaves_31 ?_
  refine lv_iload_n hx hb dX7_leaves_34 rfl (lv_at hl 0 rfl) ?_
  refine m_ld9 (i := r) hx hb hK hR (by omega) dX7_leaves_35 ?_
  refine x_top (y := (nI (rZ R r - 1))) (by show upd (Y 9) r _ r = _; simp [upd]) ?_
  refine y_iadd hx hb dX7_leaves_36 ?_
  refine m_ld10 (i := (32 * r) + (rZ R r - 1)) hx hb hK hR (by omega) dX7_leaves_37 ?_
  refine x_top (y := (nI (rM R r (rZ R r - 1)))) (hr.2.2.2.2 r (rZ R r - 1) hlt (by omega)) ?_
  refine lv_istore_n (lv' := [(3, .int (nI (rM R r (rZ R r - 1)))), (2, .int (nI r)), (0, .ref g), (1, .int (nI k))]) hx hb dX7_leaves_38 rfl hl (by decide) rfl (fun ls hl => ?_)
  refine lv_bipush (v := nI 32) hx hb dX7_leaves_39 (by decide) ?_
  refine lv_iload_n hx hb dX7_leaves_41 rfl (lv_at hl 1 rfl) ?_
  refine y_imul hx hb dX7_leaves_42 ?_
  refine lv_istore (lv' := [(4, .int (nI (32 * r))), (3, .int (nI (rM R r (rZ R r - 1)))), (2, .int (nI r)), (0, .ref g), (1, .int (nI k))]) hx hb dX7_leaves_43 hl (by decide) rfl (fun ls hl => ?_)
  have loop45 : ∀ (n : Nat) (i : Nat) (F : Nat → Int32) (H9 : Heap) (locs9 : List Loc), 32 * r + (rZ R r - 1) - i < n → (32 * r ≤ i) → (i ≤ 32 * r + (rZ R r - 1)) → (∀ x, F x = if 32 * r ≤ x ∧ x < i then (if Y 10 x = nI k then nI (rM R r (rZ R r - 1)) else Y 10 x) else Y 10 x) → (RM D T g S (up2 (up2 Y 9 (upd (Y 9) r (nI (rZ R r - 1)))) 10 F) H9) → (va_S (AM g) s.heap H9 locs9) → ∀ (ls : Array Slot), lv_has ls 5 [(4, .int (nI i)), (3, .int (nI (rM R r (rZ R r - 1)))), (2, .int (nI r)), (0, .ref g), (1, .int (nI k))] → W p l e (rmL 0 0 0) s m args below meth c H9 locs9 (0) (0) (vx_MQ below (QV (AM g) (fun H1 => ∃ Y1, RM D T g S Y1 H1 ∧ RelR S Y1 (rowDel R r k) ∧ ∀ j, j ≠ 9 → j ≠ 10 → Y1 j = Y j)) (XX (AM g) (XN)) args s 0 0 (AM g)) (F0 m 45 ls []) := by
    intro n
    induction n with
    | zero => intro i F H9 locs9 hfuel; exact absurd hfuel (Nat.not_lt_zero _)
    | succ n ih45 =>
      intro i F H9 locs9 hfuel hi1 hi2 hF hR hS ls hl
      refine lv_iload hx hb dX7_leaves_45 (lv_at hl 0 rfl) ?_
      refine lv_bipush (v := nI 32) hx hb dX7_leaves_47 (by decide) ?_
      refine lv_iload_n hx hb dX7_leaves_49 rfl (lv_at hl 2 rfl) ?_
      refine y_imul hx hb dX7_leaves_50 ?_
      refine lv_aload_n hx hb dX7_leaves_51 rfl (lv_at hl 3 rfl) ?_
      refine m_get hx hb hts in_X7_leaves_RX7 hown hK hR 10 (by decide) (hts (.fieldLink RX7 35 "ArcheloftModel" "size" "[I") (by decide +kernel)) rfl (v := .ref (g + 9)) rfl dX7_leaves_52 ?_
      refine lv_iload_n hx hb dX7_leaves_55 rfl (lv_at hl 2 rfl) ?_
      refine m_ld9 (i := r) hx hb hK hR (by omega) dX7_leaves_56 ?_
      refine x_top (y := (nI (rZ R r - 1))) (by show upd (Y 9) r _ r = _; simp [upd]) ?_
      refine y_iadd hx hb dX7_leaves_57 ?_
      refine y_icmp_ge hx hb (by omega) (by omega) (tgt := 96) dX7_leaves_58 (by decide) (fun c58 => ?_) (fun c58 => ?_)
      · exact r_v hx hb hrt9 hlk hS (Nat.le_of_ble_eq_true rfl) (Nat.le_of_ble_eq_true rfl) dX7_leaves_96 (⟨_, hR, relR_del (Y1 := up2 (up2 Y 9 (upd (Y 9) r (nI (rZ R r - 1)))) 10 F) hr hlt (by omega) (fun j hj => by have := hk.2.2.1 r j hlt hj; omega) hz (fun q hq => hk.z hq) rfl (fun _ => rfl) (fun _ => rfl) (fun x => rfl) (fun x => by rw [show i = 32 * r + (rZ R r - 1) by omega] at hF; exact hF x), fun j a b => by simp [up2, a, b]⟩)
      · refine lv_aload_n hx hb dX7_leaves_61 rfl (lv_at hl 3 rfl) ?_
        refine m_get hx hb hts in_X7_leaves_RX7 hown hK hR 11 (by decide) (hts (.fieldLink RX7 38 "ArcheloftModel" "places" "[I") (by decide +kernel)) rfl (v := .ref (g + 10)) rfl dX7_leaves_62 ?_
        refine lv_iload hx hb dX7_leaves_65 (lv_at hl 0 rfl) ?_
        refine lv_aload_n hx hb dX7_leaves_67 rfl (lv_at hl 3 rfl) ?_
        refine m_get hx hb hts in_X7_leaves_RX7 hown hK hR 11 (by decide) (hts (.fieldLink RX7 38 "ArcheloftModel" "places" "[I") (by decide +kernel)) rfl (v := .ref (g + 10)) rfl dX7_leaves_68 ?_
        refine lv_iload hx hb dX7_leaves_71 (lv_at hl 0 rfl) ?_
        refine m_ld10 (i := i) hx hb hK hR (by omega) dX7_leaves_73 ?_
        refine x_top (y := (Y 10 i)) (by show F i = _; rw [hF, if_neg (by omega)]) ?_
        refine lv_iload_n hx hb dX7_leaves_74 rfl (lv_at hl 4 rfl) ?_
        refine lv_icmp_ne (tgt := 82) hx hb dX7_leaves_75 (by decide) (fun c75 => ?_) (fun c75 => ?_)
        · refine lv_aload_n hx hb dX7_leaves_82 rfl (lv_at hl 3 rfl) ?_
          refine m_get hx hb hts in_X7_leaves_RX7 hown hK hR 11 (by decide) (hts (.fieldLink RX7 38 "ArcheloftModel" "places" "[I") (by decide +kernel)) rfl (v := .ref (g + 10)) rfl dX7_leaves_83 ?_
          refine lv_iload hx hb dX7_leaves_86 (lv_at hl 0 rfl) ?_
          refine m_ld10 (i := i) hx hb hK hR (by omega) dX7_leaves_88 ?_
          refine x_top (y := (Y 10 i)) (by show F i = _; rw [hF, if_neg (by omega)]) ?_
          refine m_st10 (i := i) (v := (Y 10 i)) hx hb hK hS hR (by omega) dX7_leaves_89 (fun H2 locs2 hR hS => ?_)
          refine lv_iinc (v := (nI (i + 1))) (lv' := [(4, .int (nI (i + 1))), (3, .int (nI (rM R r (rZ R r - 1)))), (2, .int (nI r)), (0, .ref g), (1, .int (nI k))]) hx hb dX7_leaves_90 hl (k := 0) rfl (nI_inc _) (by decide) rfl (fun ls hl => ?_)
          refine lv_goto (tgt := 45) hx hb dX7_leaves_93 (by decide) ?_
          exact ih45 (i + 1) (upd F i (Y 10 i)) H2 locs2 (by omega) (by omega) (by omega) (fun x => by
                show (if x = i then Y 10 i else F x) = _
                rw [hF]
                by_cases cx : x = i
                · rw [if_pos cx, if_pos (show 32 * r ≤ x ∧ x < i + 1 by omega), cx, if_neg c75]
                · rw [if_neg cx]
                  by_cases cy : 32 * r ≤ x ∧ x < i
                  · rw [if_pos cy, if_pos (show 32 * r ≤ x ∧ x < i + 1 by omega)]
                  · rw [if_neg cy, if_neg (show ¬ (32 * r ≤ x ∧ x < i + 1) by omega)]) hR hS ls (lv_sub hl [0, 1, 2, 3, 4] rfl)
        · refine lv_iload_n hx hb dX7_leaves_78 rfl (lv_at hl 1 rfl) ?_
          refine lv_goto (tgt := 89) hx hb dX7_leaves_79 (by decide) ?_
          refine m_st10 (i := i) (v := (nI (rM R r (rZ R r - 1)))) hx hb hK hS hR (by omega) dX7_leaves_89 (fun H3 locs3 hR hS => ?_)
          refine lv_iinc (v := (nI (i + 1))) (lv' := [(4, .int (nI (i + 1))), (3, .int (nI (rM R r (rZ R r - 1)))), (2, .int (nI r)), (0, .ref g), (1, .int (nI k))]) hx hb dX7_leaves_90 hl (k := 0) rfl (nI_inc _) (by decide) rfl (fun ls hl => ?_)
          refine lv_goto (tgt := 45) hx hb dX7_leaves_93 (by decide) ?_
          exact ih45 (i + 1) (upd F i (nI (rM R r (rZ R r - 1)))) H3 locs3 (by omega) (by omega) (by omega) (fun x => by
                show (if x = i then nI (rM R r (rZ R r - 1)) else F x) = _
                rw [hF]
                by_cases cx : x = i
                · rw [if_pos cx, if_pos (show 32 * r ≤ x ∧ x < i + 1 by omega), cx, if_pos c75]
                · rw [if_neg cx]
                  by_cases cy : 32 * r ≤ x ∧ x < i
                  · rw [if_pos cy, if_pos (show 32 * r ≤ x ∧ x < i + 1 by omega)]
                  · rw [if_neg cy, if_neg (show ¬ (32 * r ≤ x ∧ x < i + 1) by omega)]) hR hS ls (lv_sub hl [0, 1, 2, 3, 4] rfl)
  exact loop45 ((32 * r + (rZ R r - 1) - 32 * r) + 1) (32 * r) (Y 10) H1 locs1 (Nat.lt_succ_self _) (Nat.le_refl _) (Nat.le_add_right _ _) (fun x => by rw [if_neg (by omega)]) hR hS ls (lv_sub hl [0, 1, 2, 3, 4] rfl)
set_option maxRecDepth 100000 in
theorem in_X7_becomes_RX7 : ∀ w ∈ wsX70, w ∈ wsX7_becomes := by decide +kernel
set_option maxHeartbeats 4000000 in
set_option maxRecDepth 100000 in
theorem c_X7_becomes (l : Launch) {D : va_G} {T : Nat → ClassId} {dE mi : Nat} {g : Nat} {S : Nat → Int32} {Y : Nat → Nat → Int32} {H : Heap} (hR : RM D T g S Y H) {E : mE} {R : mR} (hE : RelE Y E) (hr : RelR S Y R) (iE : InvE E) (iR : InvR E R) {k d : Nat} (hal : mAl E k = true) (hd : d < 64) : vx_Met l yX7_becomes wsX7_becomes (rmL 1 0 0) (PcE D T dE mi (AM g) H [.ref g, .int (nI k), .int (nI d)]) (QV (AM g) (fun H1 => ∃ S1 Y1, RM D T g S1 Y1 H1 ∧ RelE Y1 (becomesE E k d) ∧ RelR S1 Y1 (becomesR E R k d) ∧ (∀ j, j ≠ 12 → S1 j = S j) ∧ ∀ j, j ≠ 3 → j ≠ 7 → j ≠ 8 → j ≠ 9 → j ≠ 10 → Y1 j = Y j)) (XX (AM g) (XN)) 0 0 (AM g) := by
  refine entry (cc := cX7_becomes) (maxL := 3) (ret := none) (by decide) rfl (Nat.le_of_ble_eq_true rfl) ?_
  intro p e s m args below meth c hx hb hrt9 hml hown hts hlk hnt hnm hev hS ls hl
  have hown : s.vm.findClass RX7 = some m.cls := hown
  have hK := hev.1
  have hl : lv_has ls 3 [(0, .ref g), (1, .int (nI k)), (2, .int (nI d))] := hl
  have hk32 := iE.2.1 k hal
  have hok := iR.ok iE
  obtain ⟨j0, q1, q2, q3, q4⟩ := iR.at hal
  obtain ⟨b1, b2, b3⟩ := leave_mem iE iR hal
  refine lv_aload_n hx hb dX7_becomes_0 rfl (lv_at hl 0 rfl) ?_
  refine lv_iload_n hx hb dX7_becomes_1 rfl (lv_at hl 1 rfl) ?_
  refine k_vp (k_V (As := [.int (nI k)]) (rest := []) ⟨hx, hb, hml, hown, hts⟩ hev hS (c_X7_leaves l hR hr hok hk32 (iE.1 k) (hE.2.2.1 k hk32 hal) rfl q1 (by omega)) (cwV 1 hts gX7_becomes_X7_leaves rfl rfl rfl (by decide +kernel) ⟨Nat.le_of_ble_eq_true rfl, Nat.le_of_ble_eq_true rfl⟩) (x_recv hK hR.1 rfl) rfl hl.1 (Nat.le_of_ble_eq_true rfl) dX7_becomes_2 (Nat.le_of_ble_eq_true rfl) (Nat.le_of_ble_eq_true rfl)) hS hnt hlk (fun _ _ h _ => h.elim) (Nat.le_of_ble_eq_true rfl) (Nat.le_of_ble_eq_true rfl) (fun H1 locs1 hP hz1 hS => ?_)
  refine W.widen (k := 0) (n := 0) (Nat.le_refl _) (Nat.le_refl _) ?_
  obtain ⟨Y1, hR, hr1, fy1⟩ := hP
  refine lv_aload_n hx hb dX7_becomes_5 rfl (lv_at hl 0 rfl) ?_
  refine m_get hx hb hts in_X7_becomes_RX7 hown hK hR 4 (by decide) (hts (.fieldLink RX7 17 "ArcheloftModel" "kinds" "[I") (by decide +kernel)) rfl (v := .ref (g + 3)) rfl dX7_becomes_6 ?_
  refine lv_iload_n hx hb dX7_becomes_9 rfl (lv_at hl 1 rfl) ?_
  refine lv_iload_n hx hb dX7_becomes_10 rfl (lv_at hl 2 rfl) ?_
  refine m_st3 (i := k) (v := (nI d)) hx hb hK hS hR (by omega) dX7_becomes_11 (fun H2 locs2 hR hS => ?_)
  refine lv_aload_n hx hb dX7_becomes_12 rfl (lv_at hl 0 rfl) ?_
  refine lv_iload_n hx hb dX7_becomes_13 rfl (lv_at hl 1 rfl) ?_
  refine k_vp (k_V (As := [.int (nI k)]) (rest := []) ⟨hx, hb, hml, hown, hts⟩ hev hS (c_X7_enters l (Y := up2 Y1 3 (upd (Y1 3) k (nI d))) hR (R := rowDel R (row R (mKd E k)) k) (hr1.cong rfl (fun j h1 h2 => by simp only [up2]; rw [if_neg (by omega)])) hk32 hd (by show upd (Y1 3) k (nI d) k = _; simp [upd]) b1.le (fun e => b1.new hd e) (fun q hq => b1.z hq) (fun e => b1.zlt e hk32 (fun j hj => (b2 _ j e hj).1))) (cwV 1 hts gX7_becomes_X7_enters rfl rfl rfl (by decide +kernel) ⟨Nat.le_of_ble_eq_true rfl, Nat.le_of_ble_eq_true rfl⟩) (x_recv hK hR.1 rfl) rfl hl.1 (Nat.le_of_ble_eq_true rfl) dX7_becomes_14 (Nat.le_of_ble_eq_true rfl) (Nat.le_of_ble_eq_true rfl)) hS hnt hlk (fun _ _ h _ => h.elim) (Nat.le_of_ble_eq_true rfl) (Nat.le_of_ble_eq_true rfl) (fun H3 locs3 hP hz3 hS => ?_)
  refine W.widen (k := 0) (n := 0) (Nat.le_refl _) (Nat.le_refl _) ?_
  obtain ⟨S2, Y2, hR, hr2, fs2, fy2⟩ := hP
  exact r_v hx hb hrt9 hlk hS (Nat.le_of_ble_eq_true rfl) (Nat.le_of_ble_eq_true rfl) dX7_becomes_17 (⟨S2, Y2, hR, relE_kd hE (fun x => by
        have e3 : Y2 3 = upd (Y1 3) k (nI d) := fy2 3 (by decide) (by decide) (by decide) (by decide)
        have e4 : Y1 3 = Y 3 := fy1 3 (by decide) (by decide)
        rw [e3, e4]; rfl) (fun j h1 h2 => by
        rw [fy2 j (by omega) (by omega) (by omega) (by omega)]
        simp only [up2]
        rw [if_neg h2]
        exact fy1 j (by omega) (by omega)), hr2, fs2, fun j a7 a8 a9 a10 a11 => by
        rw [fy2 j a8 a9 a10 a11]
        simp only [up2]
        rw [if_neg a7]
        exact fy1 j a10 a11⟩)
set_option maxRecDepth 100000 in
theorem in_X7_makes_RX7 : ∀ w ∈ wsX70, w ∈ wsX7_makes := by decide +kernel
set_option maxHeartbeats 4000000 in
set_option maxRecDepth 100000 in
theorem c_X7_makes (l : Launch) {D : va_G} {T : Nat → ClassId} {dE mi : Nat} {g : Nat} {S : Nat → Int32} {Y : Nat → Nat → Int32} {H : Heap} (hR : RM D T g S Y H) {E : mE} {R : mR} (hE : RelE Y E) (hr : RelR S Y R) (iE : InvE E) (iR : InvR E R) (hf : free E < 32) : vx_Met l yX7_makes wsX7_makes (rmL 1 0 0) (PcE D T dE mi (AM g) H [.ref g]) (QI (AM g) (fun r H1 => r = nI (free E) ∧ ∃ S1 Y1, RM D T g S1 Y1 H1 ∧ RelE Y1 (makesE E (free E)) ∧ RelR S1 Y1 (rowAdd R 0 (free E)) ∧ (∀ j, j ≠ 12 → S1 j = S j) ∧ ∀ j, j ≠ 1 → j ≠ 3 → j ≠ 4 → j ≠ 7 → j ≠ 8 → j ≠ 9 → j ≠ 10 → Y1 j = Y j)) (XX (AM g) (XN)) 0 0 (AM g) := by
  refine entry (cc := cX7_makes) (maxL := 2) (ret := (some .int)) (by decide) rfl (Nat.le_of_ble_eq_true rfl) ?_
  intro p e s m args below meth c hx hb hrt9 hml hown hts hlk hnt hnm hev hS ls hl
  have hown : s.vm.findClass RX7 = some m.cls := hown
  have hK := hev.1
  have hl : lv_has ls 2 [(0, .ref g)] := hl
  have hok := iR.ok iE
  have hdead : mAl E (free E) = false := by
    obtain ⟨f, e1, e2, e3, e4⟩ := free_ex E
    rw [e1] at hf ⊢
    rcases e4 with e4 | e4
    · omega
    · exact e4
  refine lv_aload_n hx hb dX7_makes_0 rfl (lv_at hl 0 rfl) ?_
  refine k_ip (k_V (As := []) (rest := []) ⟨hx, hb, hml, hown, hts⟩ hev hS (c_X7_freeSlot l hR hE) (cwV 0 hts gX7_makes_X7_freeSlot rfl rfl rfl (by decide +kernel) ⟨Nat.le_of_ble_eq_true rfl, Nat.le_of_ble_eq_true rfl⟩) (x_recv hK hR.1 rfl) rfl hl.1 (Nat.le_of_ble_eq_true rfl) dX7_makes_1 (Nat.le_of_ble_eq_true rfl) (Nat.le_of_ble_eq_true rfl)) hS hnt hlk (fun _ _ h _ => h.elim) (Nat.le_of_ble_eq_true rfl) (Nat.le_of_ble_eq_true rfl) (fun rq1_ H1 locs1 hP hz1 hS => ?_)
  refine W.widen (k := 0) (n := 0) (Nat.le_refl _) (Nat.le_refl _) ?_
  have hR : RM D T g S Y H1 := by rw [hP.1]; exact hR
  have er := hP.2
  refine x_top (y := (nI (free E))) (er) ?_
  refine lv_istore_n (lv' := [(1, .int (nI (free E))), (0, .ref g)]) hx hb dX7_makes_4 rfl hl (by decide) rfl (fun ls hl => ?_)
  refine lv_aload_n hx hb dX7_makes_5 rfl (lv_at hl 1 rfl) ?_
  refine m_get hx hb hts in_X7_makes_RX7 hown hK hR 2 (by decide) (hts (.fieldLink RX7 7 "ArcheloftModel" "isAlive" "[Z") (by decide +kernel)) rfl (v := .ref (g + 1)) rfl dX7_makes_6 ?_
  refine lv_iload_n hx hb dX7_makes_9 rfl (lv_at hl 0 rfl) ?_
  refine lv_iconst (v := nI 1) hx hb dX7_makes_10 (by decide) ?_
  refine m_st1 (i := free E) (v := (nI 1)) hx hb hK hS hR (by omega) (Or.inr rfl) dX7_makes_11 (fun H2 locs2 hR hS => ?_)
  refine lv_aload_n hx hb dX7_makes_12 rfl (lv_at hl 1 rfl) ?_
  refine m_get hx hb hts in_X7_makes_RX7 hown hK hR 4 (by decide) (hts (.fieldLink RX7 17 "ArcheloftModel" "kinds" "[I") (by decide +kernel)) rfl (v := .ref (g + 3)) rfl dX7_makes_13 ?_
  refine lv_iload_n hx hb dX7_makes_16 rfl (lv_at hl 0 rfl) ?_
  refine lv_iconst (v := nI 0) hx hb dX7_makes_17 (by decide) ?_
  refine m_st3 (i := free E) (v := (nI 0)) hx hb hK hS hR (by omega) dX7_makes_18 (fun H3 locs3 hR hS => ?_)
  refine lv_aload_n hx hb dX7_makes_19 rfl (lv_at hl 1 rfl) ?_
  refine m_get hx hb hts in_X7_makes_RX7 hown hK hR 5 (by decide) (hts (.fieldLink RX7 20 "ArcheloftModel" "parent" "[I") (by decide +kernel)) rfl (v := .ref (g + 4)) rfl dX7_makes_20 ?_
  refine lv_iload_n hx hb dX7_makes_23 rfl (lv_at hl 0 rfl) ?_
  refine lv_iconst (v := -1) hx hb dX7_makes_24 (by decide) ?_
  refine m_st4 (i := free E) (v := ((-1))) hx hb hK hS hR (by omega) dX7_makes_25 (fun H4 locs4 hR hS => ?_)
  refine lv_aload_n hx hb dX7_makes_26 rfl (lv_at hl 1 rfl) ?_
  refine lv_iload_n hx hb dX7_makes_27 rfl (lv_at hl 0 rfl) ?_
  refine k_vp (k_V (As := [.int (nI (free E))]) (rest := []) ⟨hx, hb, hml, hown, hts⟩ hev hS (c_X7_enters l (R := R) hR (hr.cong rfl (fun j h1 h2 => by simp only [up2]; rw [if_neg (by omega), if_neg (by omega), if_neg (by omega)])) hf (d := 0) (by decide) (by show upd (Y 3) (free E) (nI 0) (free E) = _; simp [upd]) hok.le (fun e => hok.new (by decide) e) (fun q hq => hok.z hq) (fun e => hok.zlt e hf (fun j hj z => by have := (iR.2.2.1 _ j e hj).1; rw [z, hdead] at this; cases this))) (cwV 1 hts gX7_makes_X7_enters rfl rfl rfl (by decide +kernel) ⟨Nat.le_of_ble_eq_true rfl, Nat.le_of_ble_eq_true rfl⟩) (x_recv hK hR.1 rfl) rfl hl.1 (Nat.le_of_ble_eq_true rfl) dX7_makes_28 (Nat.le_of_ble_eq_true rfl) (Nat.le_of_ble_eq_true rfl)) hS hnt hlk (fun _ _ h _ => h.elim) (Nat.le_of_ble_eq_true rfl) (Nat.le_of_ble_eq_true rfl) (fun H5 locs5 hP hz5 hS => ?_)
  refine W.widen (k := 0) (n := 0) (Nat.le_refl _) (Nat.le_refl _) ?_
  obtain ⟨S2, Y2, hR, hr2, fs2, fy2⟩ := hP
  refine lv_iload_n hx hb dX7_makes_31 rfl (lv_at hl 0 rfl) ?_
  exact r_i hx hb hrt9 hlk hS (Nat.le_of_ble_eq_true rfl) (Nat.le_of_ble_eq_true rfl) dX7_makes_32 (⟨rfl, S2, Y2, hR, relE_make hE (fun x => by rw [fy2 1 (by decide) (by decide) (by decide) (by decide)]; rfl) (fun x => by rw [fy2 3 (by decide) (by decide) (by decide) (by decide)]; rfl) (fun x => by rw [fy2 4 (by decide) (by decide) (by decide) (by decide)]; rfl) (fun j h1 h2 h3 h4 => by
        rw [fy2 j (by omega) (by omega) (by omega) (by omega)]; simp only [up2]; rw [if_neg (by omega), if_neg (by omega), if_neg (by omega)]), hr2, fs2, fun j a1 a3 a4 a7 a8 a9 a10 => by
        rw [fy2 j a7 a8 a9 a10]; simp only [up2]; rw [if_neg (by omega), if_neg (by omega), if_neg (by omega)]⟩)
set_option maxRecDepth 100000 in
theorem in_X7_adds_RX7 : ∀ w ∈ wsX70, w ∈ wsX7_adds := by decide +kernel
set_option maxHeartbeats 4000000 in
set_option maxRecDepth 100000 in
theorem c_X7_adds (l : Launch) {D : va_G} {T : Nat → ClassId} {dE mi : Nat} {g : Nat} {S : Nat → Int32} {Y : Nat → Nat → Int32} {H : Heap} (hR : RM D T g S Y H) {E : mE} {R : mR} (hE : RelE Y E) (hr : RelR S Y R) (iE : InvE E) (iR : InvR E R) {k i : Nat} (hal : mAl E k = true) (hi : i < 6) (v : Int32) : vx_Met l yX7_adds wsX7_adds (rmL 2 0 0) (PcE D T dE mi (AM g) H [.ref g, .int (nI k), .int (nI i), .int v]) (QV (AM g) (fun H1 => ∃ S1 Y1, RM D T g S1 Y1 H1 ∧ RelE Y1 (addsE E k i v (S 1)) ∧ RelR S1 Y1 (addsR E R k i) ∧ (∀ j, j ≠ 12 → S1 j = S j) ∧ ∀ j, j ≠ 3 → j ≠ 5 → j ≠ 6 → j ≠ 7 → j ≠ 8 → j ≠ 9 → j ≠ 10 → Y1 j = Y j)) (XX (AM g) (XN)) 0 0 (AM g) := by
  refine entry (cc := cX7_adds) (maxL := 4) (ret := none) (by decide) rfl (Nat.le_of_ble_eq_true rfl) ?_
  intro p e s m args below meth c hx hb hrt9 hml hown hts hlk hnt hnm hev hS ls hl
  have hown : s.vm.findClass RX7 = some m.cls := hown
  have hK := hev.1
  have hl : lv_has ls 4 [(0, .ref g), (1, .int (nI k)), (2, .int (nI i)), (3, .int v)] := hl
  have hk32 := iE.2.1 k hal
  have hb6 := bit_set (mKd E k) (iE.1 k) i hi
  refine lv_aload_n hx hb dX7_adds_0 rfl (lv_at hl 0 rfl) ?_
  refine m_get hx hb hts in_X7_adds_RX7 hown hK hR 6 (by decide) (hts (.fieldLink RX7 23 "ArcheloftModel" "values" "[I") (by decide +kernel)) rfl (v := .ref (g + 5)) rfl dX7_adds_1 ?_
  refine lv_bipush (v := nI 6) hx hb dX7_adds_4 (by decide) ?_
  refine lv_iload_n hx hb dX7_adds_6 rfl (lv_at hl 1 rfl) ?_
  refine y_imul hx hb dX7_adds_7 ?_
  refine lv_iload_n hx hb dX7_adds_8 rfl (lv_at hl 2 rfl) ?_
  refine y_iadd hx hb dX7_adds_9 ?_
  refine lv_iload_n hx hb dX7_adds_10 rfl (lv_at hl 3 rfl) ?_
  refine m_st5 (i := (6 * k) + i) (v := v) hx hb hK hS hR (by omega) dX7_adds_11 (fun H1 locs1 hR hS => ?_)
  refine lv_aload_n hx hb dX7_adds_12 rfl (lv_at hl 0 rfl) ?_
  refine m_get hx hb hts in_X7_adds_RX7 hown hK hR 7 (by decide) (hts (.fieldLink RX7 26 "ArcheloftModel" "marks" "[I") (by decide +kernel)) rfl (v := .ref (g + 6)) rfl dX7_adds_13 ?_
  refine lv_bipush (v := nI 6) hx hb dX7_adds_16 (by decide) ?_
  refine lv_iload_n hx hb dX7_adds_18 rfl (lv_at hl 1 rfl) ?_
  refine y_imul hx hb dX7_adds_19 ?_
  refine lv_iload_n hx hb dX7_adds_20 rfl (lv_at hl 2 rfl) ?_
  refine y_iadd hx hb dX7_adds_21 ?_
  refine lv_aload_n hx hb dX7_adds_22 rfl (lv_at hl 0 rfl) ?_
  refine m_get hx hb hts in_X7_adds_RX7 hown hK hR 1 (by decide) (hts (.fieldLink RX7 95 "ArcheloftModel" "tick" "I") (by decide +kernel)) rfl (v := .int (S 1)) rfl dX7_adds_23 ?_
  refine m_st6 (i := (6 * k) + i) (v := (S 1)) hx hb hK hS hR (by omega) dX7_adds_26 (fun H2 locs2 hR hS => ?_)
  refine lv_aload_n hx hb dX7_adds_27 rfl (lv_at hl 0 rfl) ?_
  refine lv_iload_n hx hb dX7_adds_28 rfl (lv_at hl 1 rfl) ?_
  refine lv_aload_n hx hb dX7_adds_29 rfl (lv_at hl 0 rfl) ?_
  refine m_get hx hb hts in_X7_adds_RX7 hown hK hR 4 (by decide) (hts (.fieldLink RX7 17 "ArcheloftModel" "kinds" "[I") (by decide +kernel)) rfl (v := .ref (g + 3)) rfl dX7_adds_30 ?_
  refine lv_iload_n hx hb dX7_adds_33 rfl (lv_at hl 1 rfl) ?_
  refine m_ld3 (i := k) hx hb hK hR (by omega) dX7_adds_34 ?_
  refine x_top (y := (nI (mKd E k))) (hE.2.2.1 k hk32 hal) ?_
  refine lv_iconst (v := nI 1) hx hb dX7_adds_35 (by decide) ?_
  refine lv_iload_n hx hb dX7_adds_36 rfl (lv_at hl 2 rfl) ?_
  refine lv_ishl hx hb dX7_adds_37 ?_
  refine lv_ior hx hb dX7_adds_38 ?_
  refine x_top (y := (nI (setB (mKd E k) i))) (hb6.1) ?_
  refine k_vp (k_V (As := [.int (nI k), .int (nI (setB (mKd E k) i))]) (rest := []) ⟨hx, hb, hml, hown, hts⟩ hev hS (c_X7_becomes l (E := putE E k i v (S 1)) (R := R) hR (relE_put hE hk32 hi (fun _ => rfl) (fun _ => rfl) (fun j hj => by simp only [up2]; rw [if_neg (by omega), if_neg (by omega)])) (hr.cong rfl (fun j h1 h2 => by simp only [up2]; rw [if_neg (by omega), if_neg (by omega)])) iE iR hal hb6.2) (cwV 2 hts gX7_adds_X7_becomes rfl rfl rfl (by decide +kernel) ⟨Nat.le_of_ble_eq_true rfl, Nat.le_of_ble_eq_true rfl⟩) (x_recv hK hR.1 rfl) rfl hl.1 (Nat.le_of_ble_eq_true rfl) dX7_adds_39 (Nat.le_of_ble_eq_true rfl) (Nat.le_of_ble_eq_true rfl)) hS hnt hlk (fun _ _ h _ => h.elim) (Nat.le_of_ble_eq_true rfl) (Nat.le_of_ble_eq_true rfl) (fun H3 locs3 hP hz3 hS => ?_)
  refine W.widen (k := 0) (n := 0) (Nat.le_refl _) (Nat.le_refl _) ?_
  obtain ⟨S2, Y2, hR, hE2, hr2, fs2, fy2⟩ := hP
  exact r_v hx hb hrt9 hlk hS (Nat.le_of_ble_eq_true rfl) (Nat.le_of_ble_eq_true rfl) dX7_adds_42 (⟨S2, Y2, hR, hE2, hr2, fs2, fun j a3 a5 a6 a7 a8 a9 a10 => by rw [fy2 j a3 a7 a8 a9 a10]; simp only [up2]; rw [if_neg a6, if_neg a5]⟩)
set_option maxRecDepth 100000 in
theorem in_X7_ends_RX7 : ∀ w ∈ wsX70, w ∈ wsX7_ends := by decide +kernel
set_option maxHeartbeats 4000000 in
set_option maxRecDepth 100000 in
theorem c_X7_ends (l : Launch) {D : va_G} {T : Nat → ClassId} {dE mi : Nat} {g : Nat} {S : Nat → Int32} {Y : Nat → Nat → Int32} {H : Heap} (hR : RM D T g S Y H) {E : mE} {R : mR} (hE : RelE Y E) (hr : RelR S Y R) (iE : InvE E) (iR : InvR E R) {k : Nat} (hal : mAl E k = true) : vx_Met l yX7_ends wsX7_ends (rmL 1 0 0) (PcE D T dE mi (AM g) H [.ref g, .int (nI k)]) (QI (AM g) (fun r H1 => r = nI (ends E R k).2.2 ∧ ∃ Y1, RM D T g S Y1 H1 ∧ RelE Y1 (ends E R k).1 ∧ RelR S Y1 (ends E R k).2.1 ∧ ∀ j, 11 ≤ j → j ≠ 22 → Y1 j = Y j)) (XX (AM g) (XN)) 0 0 (AM g) := by
  refine entry (cc := cX7_ends) (maxL := 6) (ret := (some .int)) (by decide) rfl (Nat.le_of_ble_eq_true rfl) ?_
  intro p e s m args below meth c hx hb hrt9 hml hown hts hlk hnt hnm hev hS ls hl
  have hown : s.vm.findClass RX7 = some m.cls := hown
  have hK := hev.1
  have hl : lv_has ls 6 [(0, .ref g), (1, .int (nI k))] := hl
  have hk32 := iE.2.1 k hal
  refine lv_iconst (v := nI 1) hx hb dX7_ends_0 (by decide) ?_
  refine lv_istore_n (lv' := [(2, .int (nI 1)), (0, .ref g), (1, .int (nI k))]) hx hb dX7_ends_1 rfl hl (by decide) rfl (fun ls hl => ?_)
  refine lv_iconst (v := nI 0) hx hb dX7_ends_2 (by decide) ?_
  refine lv_istore_n (lv' := [(3, .int (nI 0)), (2, .int (nI 1)), (0, .ref g), (1, .int (nI k))]) hx hb dX7_ends_3 rfl hl (by decide) rfl (fun ls hl => ?_)
  refine lv_aload_n hx hb dX7_ends_4 rfl (lv_at hl 2 rfl) ?_
  refine m_get hx hb hts in_X7_ends_RX7 hown hK hR 30 (by decide) (hts (.fieldLink RX7 74 "ArcheloftModel" "ending" "[I") (by decide +kernel)) rfl (v := .ref (g + 22)) rfl dX7_ends_5 ?_
  refine lv_iconst (v := nI 0) hx hb dX7_ends_8 (by decide) ?_
  refine lv_iload_n hx hb dX7_ends_9 rfl (lv_at hl 3 rfl) ?_
  refine m_st22 (i := 0) (v := (nI k)) hx hb hK hS hR (by omega) dX7_ends_10 (fun H1 locs1 hR hS => ?_)
  have loop11 : ∀ (n : Nat) (fu : Nat) (st : List Nat) (E9 : mE) (R9 : mR) (c9 : Nat) (Y9 : Nat → Nat → Int32) (H9 : Heap) (locs9 : List Loc), cnt (mAl E9) 32 < n → (cnt (mAl E9) 32 < fu) → (endsL fu st E9 R9 c9 = ends E R k) → (RelE Y9 E9) → (RelR S Y9 R9) → (InvE0 E9) → (InvR E9 R9) → (InvP E9 st) → (pileY (Y9 22) st) → (∀ j, 11 ≤ j → j ≠ 22 → Y9 j = Y j) → (RM D T g S Y9 H9) → (va_S (AM g) s.heap H9 locs9) → ∀ (ls : Array Slot), lv_has ls 6 [(3, .int (nI c9)), (2, .int (nI st.length)), (0, .ref g), (1, .int (nI k))] → W p l e (rmL 1 0 0) s m args below meth c H9 locs9 (0) (0) (vx_MQ below (QI (AM g) (fun r H1 => r = nI (ends E R k).2.2 ∧ ∃ Y1, RM D T g S Y1 H1 ∧ RelE Y1 (ends E R k).1 ∧ RelR S Y1 (ends E R k).2.1 ∧ ∀ j, 11 ≤ j → j ≠ 22 → Y1 j = Y j)) (XX (AM g) (XN)) args s 0 0 (AM g)) (F0 m 11 ls []) := by
    intro n
    induction n with
    | zero => intro fu st E9 R9 c9 Y9 H9 locs9 hfuel; exact absurd hfuel (Nat.not_lt_zero _)
    | succ n ih11 =>
      intro fu st E9 R9 c9 Y9 H9 locs9 hfuel hfu hres hE hr iE iR iP hpl fy hR hS ls hl
      have hlen : st.length ≤ 32 := nodup_len iP.1 (fun x hx => iE.2.1 x (iP.2.1 x hx))
      refine lv_iload_n hx hb dX7_ends_11 rfl (lv_at hl 1 rfl) ?_
      refine y_if_le hx hb (by omega) (tgt := 105) dX7_ends_12 (by decide) (fun c12 => ?_) (fun c12 => ?_)
      · have hst : st = [] := List.eq_nil_of_length_eq_zero c12
        subst hst
        obtain ⟨fu1, rfl⟩ : ∃ z, fu = z + 1 := ⟨fu - 1, by omega⟩
        refine lv_iload_n hx hb dX7_ends_105 rfl (lv_at hl 0 rfl) ?_
        exact r_i hx hb hrt9 hlk hS (Nat.le_of_ble_eq_true rfl) (Nat.le_of_ble_eq_true rfl) dX7_ends_106 (⟨by rw [← hres]; rfl, Y9, hR, by rw [← hres]; exact hE, by rw [← hres]; exact hr, fy⟩)
      · obtain ⟨s1, st1, rfl⟩ : ∃ a b, st = a :: b := by
          cases st with
          | nil => exact absurd c12 (by decide)
          | cons a b => exact ⟨a, b, rfl⟩
        obtain ⟨fu1, rfl⟩ : ∃ z, fu = z + 1 := ⟨fu - 1, by omega⟩
        have hl : lv_has ls 6 [(3, .int (nI c9)), (2, .int (nI (st1.length + 1))), (0, .ref g), (1, .int (nI k))] := hl
        have hsal := iP.2.1 s1 List.mem_cons_self
        have hs32 := iE.2.1 s1 hsal
        have hlen : st1.length + 1 ≤ 32 := hlen
        have hok : okR R9 := ⟨iR.1, iR.2.1, fun r j hr hj => iE.2.1 _ (iR.2.2.1 r j hr hj).1, iR.2.2.2.1⟩
        obtain ⟨j0, q1, q2, q3, q4⟩ := iR.at hsal
        obtain ⟨iE2, iR2⟩ := leave0 iE iR hsal
        have hcd : cnt (mAl (endE E9 s1)) 32 + 1 = cnt (mAl E9) 32 := by have := cnt_upd (mAl E9) hsal 32; rw [if_pos hs32] at this; exact this
        refine lv_iinc (v := (nI st1.length)) (lv' := [(2, .int (nI st1.length)), (3, .int (nI c9)), (0, .ref g), (1, .int (nI k))]) hx hb dX7_ends_15 hl (k := 1) rfl (nI_dec _) (by decide) rfl (fun ls hl => ?_)
        refine lv_aload_n hx hb dX7_ends_18 rfl (lv_at hl 2 rfl) ?_
        refine m_get hx hb hts in_X7_ends_RX7 hown hK hR 30 (by decide) (hts (.fieldLink RX7 74 "ArcheloftModel" "ending" "[I") (by decide +kernel)) rfl (v := .ref (g + 22)) rfl dX7_ends_19 ?_
        refine lv_iload_n hx hb dX7_ends_22 rfl (lv_at hl 0 rfl) ?_
        refine m_ld22 (i := st1.length) hx hb hK hR (by omega) dX7_ends_23 ?_
        refine x_top (y := (nI s1)) (pile_top hpl) ?_
        refine lv_istore (lv' := [(4, .int (nI s1)), (2, .int (nI st1.length)), (3, .int (nI c9)), (0, .ref g), (1, .int (nI k))]) hx hb dX7_ends_24 hl (by decide) rfl (fun ls hl => ?_)
        refine lv_aload_n hx hb dX7_ends_26 rfl (lv_at hl 3 rfl) ?_
        refine lv_iload hx hb dX7_ends_27 (lv_at hl 0 rfl) ?_
        refine k_vp (k_V (As := [.int (nI s1)]) (rest := []) ⟨hx, hb, hml, hown, hts⟩ hev hS (c_X7_leaves l (Y := Y9) hR hr hok hs32 (iE.1 s1) (hE.2.2.1 s1 hs32 hsal) rfl q1 (by omega)) (cwV 1 hts gX7_ends_X7_leaves rfl rfl rfl (by decide +kernel) ⟨Nat.le_of_ble_eq_true rfl, Nat.le_of_ble_eq_true rfl⟩) (x_recv hK hR.1 rfl) rfl hl.1 (Nat.le_of_ble_eq_true rfl) dX7_ends_29 (Nat.le_of_ble_eq_true rfl) (Nat.le_of_ble_eq_true rfl)) hS hnt hlk (fun _ _ h _ => h.elim) (Nat.le_of_ble_eq_true rfl) (Nat.le_of_ble_eq_true rfl) (fun H2 locs2 hP hz2 hS => ?_)
        refine W.widen (k := 0) (n := 0) (Nat.le_refl _) (Nat.le_refl _) ?_
        obtain ⟨Y7, hR, hr7, fy7⟩ := hP
        refine lv_aload_n hx hb dX7_ends_32 rfl (lv_at hl 3 rfl) ?_
        refine m_get hx hb hts in_X7_ends_RX7 hown hK hR 2 (by decide) (hts (.fieldLink RX7 7 "ArcheloftModel" "isAlive" "[Z") (by decide +kernel)) rfl (v := .ref (g + 1)) rfl dX7_ends_33 ?_
        refine lv_iload hx hb dX7_ends_36 (lv_at hl 0 rfl) ?_
        refine lv_iconst (v := nI 0) hx hb dX7_ends_38 (by decide) ?_
        refine m_st1 (i := s1) (v := (nI 0)) hx hb hK hS hR (by omega) (Or.inl rfl) dX7_ends_39 (fun H3 locs3 hR hS => ?_)
        refine lv_aload_n hx hb dX7_ends_40 rfl (lv_at hl 3 rfl) ?_
        refine m_get hx hb hts in_X7_ends_RX7 hown hK hR 3 (by decide) (hts (.fieldLink RX7 13 "ArcheloftModel" "had" "[I") (by decide +kernel)) rfl (v := .ref (g + 2)) rfl dX7_ends_41 ?_
        refine lv_iload hx hb dX7_ends_44 (lv_at hl 0 rfl) ?_
        refine lv_dup2_11 hx hb dX7_ends_46 rfl rfl ?_
        refine m_ld2 (i := s1) hx hb hK hR (by omega) dX7_ends_47 ?_
        refine x_top (y := (nI (mHad E9 s1))) (by show Y7 2 s1 = _; rw [fy7 2 (by decide) (by decide)]; exact hE.2.1 s1 hs32) ?_
        refine lv_iconst (v := nI 1) hx hb dX7_ends_48 (by decide) ?_
        refine y_iadd hx hb dX7_ends_49 ?_
        refine m_st2 (i := s1) (v := (nI ((mHad E9 s1) + 1))) hx hb hK hS hR (by omega) dX7_ends_50 (fun H4 locs4 hR hS => ?_)
        refine lv_iinc (v := (nI (c9 + 1))) (lv' := [(3, .int (nI (c9 + 1))), (4, .int (nI s1)), (2, .int (nI st1.length)), (0, .ref g), (1, .int (nI k))]) hx hb dX7_ends_51 hl (k := 2) rfl (nI_inc _) (by decide) rfl (fun ls hl => ?_)
        have hE2 : RelE (up2 (up2 Y7 1 (upd (Y7 1) s1 (nI 0))) 2 (upd ((up2 Y7 1 (upd (Y7 1) s1 (nI 0))) 2) s1 (nI ((mHad E9 s1) + 1)))) (endE E9 s1) := relE_end hE hs32 (fun x => by show (if x = s1 then nI 0 else Y7 1 x) = _; rw [fy7 1 (by decide) (by decide)]) (fun x => by show (if x = s1 then nI (mHad E9 s1 + 1) else Y7 2 x) = _; rw [fy7 2 (by decide) (by decide)]) (fun j h1 h2 h3 => by simp only [up2]; rw [if_neg h3, if_neg h2]; exact fy7 j (by omega) (by omega))
        have hr2 : RelR S (up2 (up2 Y7 1 (upd (Y7 1) s1 (nI 0))) 2 (upd ((up2 Y7 1 (upd (Y7 1) s1 (nI 0))) 2) s1 (nI ((mHad E9 s1) + 1)))) (endR E9 R9 s1) := hr7.cong rfl (fun j h1 h2 => by simp only [up2]; rw [if_neg (by omega), if_neg (by omega)])
        have hpl2 : pileY ((up2 (up2 Y7 1 (upd (Y7 1) s1 (nI 0))) 2 (upd ((up2 Y7 1 (upd (Y7 1) s1 (nI 0))) 2) s1 (nI ((mHad E9 s1) + 1)))) 22) (kidsF E9 s1 0 ++ st1) := by show pileY (Y7 22) st1; rw [fy7 22 (by decide) (by decide)]; exact pile_pop hpl
        have fy2 : ∀ j, 11 ≤ j → j ≠ 22 → (up2 (up2 Y7 1 (upd (Y7 1) s1 (nI 0))) 2 (upd ((up2 Y7 1 (upd (Y7 1) s1 (nI 0))) 2) s1 (nI ((mHad E9 s1) + 1)))) j = Y j := fun j h1 h2 => by simp only [up2]; rw [if_neg (by omega), if_neg (by omega), fy7 j (by omega) (by omega)]; exact fy j h1 h2
        refine lv_bipush (v := nI 31) hx hb dX7_ends_54 (by decide) ?_
        refine lv_istore (lv' := [(5, .int (nI 31)), (3, .int (nI (c9 + 1))), (4, .int (nI s1)), (2, .int (nI st1.length)), (0, .ref g), (1, .int (nI k))]) hx hb dX7_ends_56 hl (by decide) rfl (fun ls hl => ?_)
        have loop58 : ∀ (n : Nat) (n7 : Nat) (kx : Int32) (Y8 : Nat → Nat → Int32) (H8 : Heap) (locs8 : List Loc), 33 - n7 < n → (n7 ≤ 32) → ((n7 < 32 → kx = nI (31 - n7)) ∧ (n7 = 32 → kx = -1)) → (RelE Y8 (endE E9 s1)) → (RelR S Y8 (endR E9 R9 s1)) → (pileY (Y8 22) (kidsF E9 s1 n7 ++ st1)) → (∀ j, 11 ≤ j → j ≠ 22 → Y8 j = Y j) → (RM D T g S Y8 H8) → (va_S (AM g) s.heap H8 locs8) → ∀ (ls : Array Slot), lv_has ls 6 [(5, .int kx), (3, .int (nI (c9 + 1))), (4, .int (nI s1)), (2, .int (nI ((kidsF E9 s1 n7 ++ st1).length))), (0, .ref g), (1, .int (nI k))] → W p l e (rmL 1 0 0) s m args below meth c H8 locs8 (0) (0) (vx_MQ below (QI (AM g) (fun r H1 => r = nI (ends E R k).2.2 ∧ ∃ Y1, RM D T g S Y1 H1 ∧ RelE Y1 (ends E R k).1 ∧ RelR S Y1 (ends E R k).2.1 ∧ ∀ j, 11 ≤ j → j ≠ 22 → Y1 j = Y j)) (XX (AM g) (XN)) args s 0 0 (AM g)) (F0 m 58 ls []) := by
          intro n
          induction n with
          | zero => intro n7 kx Y8 H8 locs8 hfuel; exact absurd hfuel (Nat.not_lt_zero _)
          | succ n ih58 =>
            intro n7 kx Y8 H8 locs8 hfuel hn7 hkx hE hr hpl fy hR hS ls hl
            have hlen7 := kids_len iE iP hn7
            refine lv_iload hx hb dX7_ends_58 (lv_at hl 0 rfl) ?_
            refine lv_if_lt (tgt := 102) hx hb dX7_ends_60 (by decide) (fun c60 => ?_) (fun c60 => ?_)
            · have hn8 : n7 = 32 := by
                rcases Nat.lt_or_ge n7 32 with q | q
                · rw [hkx.1 q] at c60; exact absurd c60 (nI_pos (by omega))
                · omega
              subst hn8
              refine lv_goto (tgt := 11) hx hb dX7_ends_102 (by decide) ?_
              exact ih11 fu1 (kidsF E9 s1 32 ++ st1) (endE E9 s1) (endR E9 R9 s1) (c9 + 1) Y8 H8 locs8 (by omega) (by omega) hres hE hr iE2 iR2 (iP.step iE) hpl fy hR hS ls (lv_sub hl [1, 3, 4, 5] rfl)
            · have hn8 : n7 < 32 := by
                rcases Nat.lt_or_ge n7 32 with q | q
                · exact q
                · rw [hkx.2 (by omega)] at c60; exact absurd (by decide) c60
              have hl : lv_has ls 6 [(5, .int (nI (31 - n7))), (3, .int (nI (c9 + 1))), (4, .int (nI s1)), (2, .int (nI ((kidsF E9 s1 n7 ++ st1).length))), (0, .ref g), (1, .int (nI k))] := by
                have e9 : kx = (nI (31 - n7)) := hkx.1 hn8
                rw [← e9]; exact hl
              refine lv_aload_n hx hb dX7_ends_63 rfl (lv_at hl 4 rfl) ?_
              refine m_get hx hb hts in_X7_ends_RX7 hown hK hR 2 (by decide) (hts (.fieldLink RX7 7 "ArcheloftModel" "isAlive" "[Z") (by decide +kernel)) rfl (v := .ref (g + 1)) rfl dX7_ends_64 ?_
              refine lv_iload hx hb dX7_ends_67 (lv_at hl 0 rfl) ?_
              refine m_ld1 (i := 31 - n7) hx hb hK hR (by omega) dX7_ends_69 ?_
              refine x_top (y := (bI (mAl (endE E9 s1) (31 - n7)))) (hE.1 _ (by omega)) ?_
              refine y_bif_eq hx hb (tgt := 96) dX7_ends_70 (by decide) (fun c70 => ?_) (fun c70 => ?_)
              · have hkn : kidsF E9 s1 (n7 + 1) = kidsF E9 s1 n7 := if_neg (fun z => by have := (kid_iff iE).mpr z; rw [c70] at this; exact nomatch this.1)
                have hl : lv_has ls 6 [(5, .int (nI (31 - n7))), (3, .int (nI (c9 + 1))), (4, .int (nI s1)), (2, .int (nI ((kidsF E9 s1 n7 ++ st1).length))), (0, .ref g), (1, .int (nI k))] := hl
                have hl : lv_has ls 6 [(5, .int (nI (31 - n7))), (3, .int (nI (c9 + 1))), (4, .int (nI s1)), (2, .int (nI ((kidsF E9 s1 (n7 + 1) ++ st1).length))), (0, .ref g), (1, .int (nI k))] := by rw [hkn]; exact hl
                refine lv_iinc (v := ((nI (31 - n7)) + -1)) (lv' := [(5, .int ((nI (31 - n7)) + -1)), (3, .int (nI (c9 + 1))), (4, .int (nI s1)), (2, .int (nI ((kidsF E9 s1 (n7 + 1) ++ st1).length))), (0, .ref g), (1, .int (nI k))]) hx hb dX7_ends_96 hl (k := 0) rfl (rfl) (by decide) rfl (fun ls hl => ?_)
                refine lv_goto (tgt := 58) hx hb dX7_ends_99 (by decide) ?_
                exact ih58 (n7 + 1) (nI (31 - n7) + -1) Y8 H8 locs8 (by omega) (by omega) ⟨fun z => by rw [show 31 - n7 = (30 - n7) + 1 by omega]; exact (pk_m1 (30 - n7)).trans (by rw [show 30 - n7 = 31 - (n7 + 1) by omega]), fun z => by rw [show 31 - n7 = 0 by omega]; rfl⟩ hE hr (by rw [hkn]; exact hpl) fy hR hS ls (lv_sub hl [0, 1, 2, 3, 4, 5] rfl)
              · refine lv_aload_n hx hb dX7_ends_73 rfl (lv_at hl 4 rfl) ?_
                refine m_get hx hb hts in_X7_ends_RX7 hown hK hR 5 (by decide) (hts (.fieldLink RX7 20 "ArcheloftModel" "parent" "[I") (by decide +kernel)) rfl (v := .ref (g + 4)) rfl dX7_ends_74 ?_
                refine lv_iload hx hb dX7_ends_77 (lv_at hl 0 rfl) ?_
                refine m_ld4 (i := 31 - n7) hx hb hK hR (by omega) dX7_ends_79 ?_
                refine lv_iload hx hb dX7_ends_80 (lv_at hl 2 rfl) ?_
                refine lv_icmp_ne (tgt := 96) hx hb dX7_ends_82 (by decide) (fun c82 => ?_) (fun c82 => ?_)
                · have hkn : kidsF E9 s1 (n7 + 1) = kidsF E9 s1 n7 := if_neg (fun z => c82 (by have := (kid_iff iE).mpr z; rw [hE.2.2.2.1 _ (by omega) this.1, this.2]; rfl))
                  have hl : lv_has ls 6 [(5, .int (nI (31 - n7))), (3, .int (nI (c9 + 1))), (4, .int (nI s1)), (2, .int (nI ((kidsF E9 s1 (n7 + 1) ++ st1).length))), (0, .ref g), (1, .int (nI k))] := by rw [hkn]; exact hl
                  refine lv_iinc (v := ((nI (31 - n7)) + -1)) (lv' := [(5, .int ((nI (31 - n7)) + -1)), (3, .int (nI (c9 + 1))), (4, .int (nI s1)), (2, .int (nI ((kidsF E9 s1 (n7 + 1) ++ st1).length))), (0, .ref g), (1, .int (nI k))]) hx hb dX7_ends_96 hl (k := 0) rfl (rfl) (by decide) rfl (fun ls hl => ?_)
                  refine lv_goto (tgt := 58) hx hb dX7_ends_99 (by decide) ?_
                  exact ih58 (n7 + 1) (nI (31 - n7) + -1) Y8 H8 locs8 (by omega) (by omega) ⟨fun z => by rw [show 31 - n7 = (30 - n7) + 1 by omega]; exact (pk_m1 (30 - n7)).trans (by rw [show 30 - n7 = 31 - (n7 + 1) by omega]), fun z => by rw [show 31 - n7 = 0 by omega]; rfl⟩ hE hr (by rw [hkn]; exact hpl) fy hR hS ls (lv_sub hl [0, 1, 2, 3, 4, 5] rfl)
                · have hpar : mPar (endE E9 s1) (31 - n7) = some s1 := by
                    rw [hE.2.2.2.1 _ (by omega) c70] at c82
                    obtain ⟨-, -, -, dp2, hdp2⟩ := iE2
                    exact (nO_inj (a := mPar (endE E9 s1) (31 - n7)) (b := some s1) (fun z hz => by have := (hdp2 _ z hz).2; omega) (fun u hu => by obtain rfl := Option.some.inj hu; omega)).mp c82
                  have hkn : kidsF E9 s1 (n7 + 1) = (31 - n7) :: kidsF E9 s1 n7 := if_pos ((kid_iff iE).mp ⟨c70, hpar⟩)
                  have hlen8 := kids_len iE iP (n := n7 + 1) (by omega)
                  rw [hkn] at hlen8
                  have hlen8 : (kidsF E9 s1 n7 ++ st1).length + 1 ≤ 32 := hlen8
                  refine lv_aload_n hx hb dX7_ends_85 rfl (lv_at hl 4 rfl) ?_
                  refine m_get hx hb hts in_X7_ends_RX7 hown hK hR 30 (by decide) (hts (.fieldLink RX7 74 "ArcheloftModel" "ending" "[I") (by decide +kernel)) rfl (v := .ref (g + 22)) rfl dX7_ends_86 ?_
                  refine lv_iload_n hx hb dX7_ends_89 rfl (lv_at hl 3 rfl) ?_
                  refine lv_iload hx hb dX7_ends_90 (lv_at hl 0 rfl) ?_
                  refine m_st22 (i := (kidsF E9 s1 n7 ++ st1).length) (v := (nI (31 - n7))) hx hb hK hS hR (by omega) dX7_ends_92 (fun H5 locs5 hR hS => ?_)
                  refine lv_iinc (v := (nI ((kidsF E9 s1 n7 ++ st1).length + 1))) (lv' := [(2, .int (nI ((kidsF E9 s1 n7 ++ st1).length + 1))), (5, .int (nI (31 - n7))), (3, .int (nI (c9 + 1))), (4, .int (nI s1)), (0, .ref g), (1, .int (nI k))]) hx hb dX7_ends_93 hl (k := 3) rfl (nI_inc _) (by decide) rfl (fun ls hl => ?_)
                  have hpl3 : pileY (upd (Y8 22) (kidsF E9 s1 n7 ++ st1).length (nI (31 - n7))) (kidsF E9 s1 (n7 + 1) ++ st1) := by rw [hkn]; exact pile_push hpl
                  have hl : lv_has ls 6 [(2, .int (nI ((kidsF E9 s1 (n7 + 1) ++ st1).length))), (5, .int (nI (31 - n7))), (3, .int (nI (c9 + 1))), (4, .int (nI s1)), (0, .ref g), (1, .int (nI k))] := by rw [hkn]; exact hl
                  refine lv_iinc (v := ((nI (31 - n7)) + -1)) (lv' := [(5, .int ((nI (31 - n7)) + -1)), (2, .int (nI ((kidsF E9 s1 (n7 + 1) ++ st1).length))), (3, .int (nI (c9 + 1))), (4, .int (nI s1)), (0, .ref g), (1, .int (nI k))]) hx hb dX7_ends_96 hl (k := 1) rfl (rfl) (by decide) rfl (fun ls hl => ?_)
                  refine lv_goto (tgt := 58) hx hb dX7_ends_99 (by decide) ?_
                  exact ih58 (n7 + 1) (nI (31 - n7) + -1) (up2 Y8 22 (upd (Y8 22) ((kidsF E9 s1 n7 ++ st1).length) (nI (31 - n7)))) H5 locs5 (by omega) (by omega) ⟨fun z => by rw [show 31 - n7 = (30 - n7) + 1 by omega]; exact (pk_m1 (30 - n7)).trans (by rw [show 30 - n7 = 31 - (n7 + 1) by omega]), fun z => by rw [show 31 - n7 = 0 by omega]; rfl⟩ (hE.cong (fun j hj => by simp only [up2]; rw [if_neg (by omega)])) (hr.cong rfl (fun j h1 h2 => by simp only [up2]; rw [if_neg (by omega)])) hpl3 (fun j h1 h2 => by simp only [up2]; rw [if_neg h2]; exact fy j h1 h2) hR hS ls (lv_sub hl [0, 2, 3, 1, 4, 5] rfl)
        exact loop58 (33 + 1) 0 (nI 31) (up2 (up2 Y7 1 (upd (Y7 1) s1 (nI 0))) 2 (upd ((up2 Y7 1 (upd (Y7 1) s1 (nI 0))) 2) s1 (nI ((mHad E9 s1) + 1)))) H4 locs4 (Nat.lt_succ_self _) (by omega) ⟨fun _ => rfl, fun z => absurd z (by decide)⟩ hE2 hr2 hpl2 fy2 hR hS ls (lv_sub hl [0, 1, 2, 3, 4, 5] rfl)
  exact loop11 ((cnt (mAl E) 32) + 1) 40 [k] E R 0 (up2 Y 22 (upd (Y 22) 0 (nI k))) H1 locs1 (Nat.lt_succ_self _) (by have := cnt_le (mAl E) 32; omega) rfl (hE.cong (fun j hj => by simp only [up2]; rw [if_neg (by omega)])) (hr.cong rfl (fun j h1 h2 => by simp only [up2]; rw [if_neg (by omega)])) iE.to0 iR (InvP.one iE hal) (pile_push (f := Y 22) (st := []) (fun i hi => absurd hi (Nat.not_lt_zero _))) (fun j h1 h2 => by simp only [up2]; rw [if_neg h2]) hR hS ls (lv_sub hl [0, 1, 2, 3] rfl)
