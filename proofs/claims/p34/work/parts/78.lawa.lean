set_option maxHeartbeats 4000000 in
set_option maxRecDepth 100000 in
theorem c_L_low (l : Launch) {D : va_G} {T : Nat → ClassId} {dE mi : Nat} {A : Nat → Prop} {H : Heap} (v : Int32) {q : Nat} (hq0 : 0 < q) (hq : q < 2 ^ 31) : vx_Met l yL_low wsL_low (rmL 0 0 0) (PcE D T dE mi A H [.int v, .int (nI q)]) (QI A (fun r H1 => H1 = H ∧ ∃ j, j < q ∧ r = nI j)) (XX A (XN)) 0 0 A := by
  refine entry (cc := cL_low) (maxL := 2) (ret := (some .int)) (by decide) rfl (Nat.le_of_ble_eq_true rfl) ?_
  intro p e s m args below meth c hx hb hrt9 hml hown hts hlk hnt hnm hev hS ls hl
  have hown : s.vm.findClass RL = some m.cls := hown
  have hK := hev.1
  have hl : lv_has ls 2 [(0, .int v), (1, .int (nI q))] := hl
  refine lv_iload_n hx hb dL_low_0 rfl (lv_at hl 0 rfl) ?_
  refine lv_ldc (v := (nI 2147483647)) hx hb hown (hts (.constant RL 9 (2147483647)) (by decide +kernel)) dL_low_1 ?_
  refine lv_iand hx hb dL_low_3 ?_
  obtain ⟨j, hj, ej⟩ := and_pos v
  refine x_top (y := (nI j)) (ej) ?_
  refine lv_iload_n hx hb dL_low_4 rfl (lv_at hl 1 rfl) ?_
  refine y_irem hx hb (by omega) (by omega) (by omega) dL_low_5 ?_
  exact r_i hx hb hrt9 hlk hS (Nat.le_of_ble_eq_true rfl) (Nat.le_of_ble_eq_true rfl) dL_low_6 (⟨rfl, _, Nat.mod_lt _ hq0, rfl⟩)
set_option maxHeartbeats 4000000 in
set_option maxRecDepth 100000 in
theorem c_L_slot (l : Launch) {D : va_G} {T : Nat → ClassId} {dE mi : Nat} {A : Nat → Prop} {g : Nat} {Y : Nat → Nat → Int32} {H : Heap} (hL : SL T g Y H) {E : mE} (hE : LE Y E) {b : Nat} (hb0 : b ≤ 1000000) (hh : ∀ k, mHad E k ≤ b) (x : Int32) : vx_Met l yL_slot wsL_slot (rmL 0 0 0) (PcE D T dE mi A H [.int x, .ref (g + 1)]) (QI A (fun r H1 => H1 = H ∧ r = nO (look E x))) (XX A (XN)) 0 0 A := by
  refine entry (cc := cL_slot) (maxL := 3) (ret := (some .int)) (by decide) rfl (Nat.le_of_ble_eq_true rfl) ?_
  intro p e s m args below meth c hx hb hrt9 hml hown hts hlk hnt hnm hev hS ls hl
  have hown : s.vm.findClass RL = some m.cls := hown
  have hK := hev.1
  have hl : lv_has ls 3 [(0, .int x), (1, .ref (g + 1))] := hl
  refine lv_iload_n hx hb dL_slot_0 rfl (lv_at hl 0 rfl) ?_
  refine lv_if_ge (tgt := 9) hx hb dL_slot_1 (by decide) (fun c1 => ?_) (fun c1 => ?_)
  · obtain ⟨j, hj, rfl⟩ := nI_of (x := x) (fun z => absurd c1 (Int32.not_le.mpr z))
    have hl : lv_has ls 3 [(0, .int (nI j)), (1, .ref (g + 1))] := hl
    refine lv_iload_n hx hb dL_slot_9 rfl (lv_at hl 0 rfl) ?_
    refine lv_bipush (v := nI 32) hx hb dL_slot_10 (by decide) ?_
    refine y_irem hx hb (by omega) (by omega) (by omega) dL_slot_12 ?_
    refine lv_istore_n (lv' := [(2, .int (nI (j % 32))), (0, .int (nI j)), (1, .ref (g + 1))]) hx hb dL_slot_13 rfl hl (by decide) rfl (fun ls hl => ?_)
    refine lv_iload_n hx hb dL_slot_14 rfl (lv_at hl 0 rfl) ?_
    refine lv_bipush (v := nI 10) hx hb dL_slot_15 (by decide) ?_
    refine y_icmp_ge hx hb (by omega) (Nat.le_of_ble_eq_true rfl) (tgt := 49) dL_slot_17 (by decide) (fun c17 => ?_) (fun c17 => ?_)
    · have hno : look E (nI j) = none := by rw [look_nI hj hb0 hh, if_neg (fun z => by have := hE.2.2.2.2.1 _ z.1; omega)]
      refine lv_iconst (v := -1) hx hb dL_slot_49 (by decide) ?_
      exact r_i hx hb hrt9 hlk hS (Nat.le_of_ble_eq_true rfl) (Nat.le_of_ble_eq_true rfl) dL_slot_50 (⟨rfl, by rw [hno]; rfl⟩)
    · refine lv_aload_n hx hb dL_slot_20 rfl (lv_at hl 2 rfl) ?_
      refine lv_bipush (v := nI 6) hx hb dL_slot_21 (by decide) ?_
      refine lv_iload_n hx hb dL_slot_23 rfl (lv_at hl 0 rfl) ?_
      refine y_imul hx hb dL_slot_24 ?_
      refine n_ld1 (i := 6 * (j % 32)) hx hb hK hL (by omega) dL_slot_25 ?_
      refine x_top (y := (bI (mAl E (j % 32)))) (hE.1 _ (by omega)) ?_
      refine lv_iconst (v := nI 1) hx hb dL_slot_26 (by decide) ?_
      refine lv_icmp_ne (tgt := 49) hx hb dL_slot_27 (by decide) (fun c27 => ?_) (fun c27 => ?_)
      · have hal := bI_n1 c27
        have hno : look E (nI j) = none := by rw [look_nI hj hb0 hh, if_neg (fun z => by rw [hal] at z; cases z.1)]
        refine lv_iconst (v := -1) hx hb dL_slot_49 (by decide) ?_
        exact r_i hx hb hrt9 hlk hS (Nat.le_of_ble_eq_true rfl) (Nat.le_of_ble_eq_true rfl) dL_slot_50 (⟨rfl, by rw [hno]; rfl⟩)
      · have hal := bI_e1 c27
        refine lv_aload_n hx hb dL_slot_30 rfl (lv_at hl 2 rfl) ?_
        refine lv_bipush (v := nI 6) hx hb dL_slot_31 (by decide) ?_
        refine lv_iload_n hx hb dL_slot_33 rfl (lv_at hl 0 rfl) ?_
        refine y_imul hx hb dL_slot_34 ?_
        refine lv_iconst (v := nI 1) hx hb dL_slot_35 (by decide) ?_
        refine y_iadd hx hb dL_slot_36 ?_
        refine n_ld1 (i := (6 * (j % 32)) + 1) hx hb hK hL (by omega) dL_slot_37 ?_
        refine x_top (y := (nI (mHad E (j % 32)))) (hE.2.1 _ (by omega)) ?_
        have hq9 := hh (j % 32)
        refine lv_iload_n hx hb dL_slot_38 rfl (lv_at hl 1 rfl) ?_
        refine lv_bipush (v := nI 32) hx hb dL_slot_39 (by decide) ?_
        refine y_idiv hx hb (by omega) (by omega) (by omega) dL_slot_41 ?_
        refine y_icmp_ne hx hb (by omega) (by omega) (tgt := 49) dL_slot_42 (by decide) (fun c42 => ?_) (fun c42 => ?_)
        · have hno : look E (nI j) = none := by rw [look_nI hj hb0 hh, if_neg (fun z => c42 z.2)]
          refine lv_iconst (v := -1) hx hb dL_slot_49 (by decide) ?_
          exact r_i hx hb hrt9 hlk hS (Nat.le_of_ble_eq_true rfl) (Nat.le_of_ble_eq_true rfl) dL_slot_50 (⟨rfl, by rw [hno]; rfl⟩)
        · have hyes : look E (nI j) = some (j % 32) := by rw [look_nI hj hb0 hh, if_pos ⟨hal, c42⟩]
          refine lv_iload_n hx hb dL_slot_45 rfl (lv_at hl 0 rfl) ?_
          refine lv_goto (tgt := 50) hx hb dL_slot_46 (by decide) ?_
          exact r_i hx hb hrt9 hlk hS (Nat.le_of_ble_eq_true rfl) (Nat.le_of_ble_eq_true rfl) dL_slot_50 (⟨rfl, by rw [hyes]; rfl⟩)
  · have cneg : x < 0 := Int32.not_le.mp c1
    refine lv_bipush (v := nI 10) hx hb dL_slot_4 (by decide) ?_
    refine lv_goto (tgt := 13) hx hb dL_slot_6 (by decide) ?_
    refine lv_istore_n (lv' := [(2, .int (nI 10)), (0, .int x), (1, .ref (g + 1))]) hx hb dL_slot_13 rfl hl (by decide) rfl (fun ls hl => ?_)
    refine lv_iload_n hx hb dL_slot_14 rfl (lv_at hl 0 rfl) ?_
    refine lv_bipush (v := nI 10) hx hb dL_slot_15 (by decide) ?_
    refine y_icmp_ge hx hb (by decide) (by decide) (tgt := 49) dL_slot_17 (by decide) (fun c17 => ?_) (fun c17 => ?_)
    · have hno := look_neg cneg hb0 hh
      refine lv_iconst (v := -1) hx hb dL_slot_49 (by decide) ?_
      exact r_i hx hb hrt9 hlk hS (Nat.le_of_ble_eq_true rfl) (Nat.le_of_ble_eq_true rfl) dL_slot_50 (⟨rfl, by rw [hno]; rfl⟩)
    · exact absurd c17 (by decide)
set_option maxHeartbeats 4000000 in
set_option maxRecDepth 100000 in
theorem c_L_handle (l : Launch) {D : va_G} {T : Nat → ClassId} {dE mi : Nat} {A : Nat → Prop} {g : Nat} {Y : Nat → Nat → Int32} {H : Heap} (hL : SL T g Y H) {E : mE} (hE : LE Y E) {k : Nat} (hk : k < 10) : vx_Met l yL_handle wsL_handle (rmL 0 0 0) (PcE D T dE mi A H [.int (nI k), .ref (g + 1)]) (QI A (fun r H1 => H1 = H ∧ r = handle E k)) (XX A (XN)) 0 0 A := by
  refine entry (cc := cL_handle) (maxL := 2) (ret := (some .int)) (by decide) rfl (Nat.le_of_ble_eq_true rfl) ?_
  intro p e s m args below meth c hx hb hrt9 hml hown hts hlk hnt hnm hev hS ls hl
  have hown : s.vm.findClass RL = some m.cls := hown
  have hK := hev.1
  have hl : lv_has ls 2 [(0, .int (nI k)), (1, .ref (g + 1))] := hl
  refine lv_iload_n hx hb dL_handle_0 rfl (lv_at hl 0 rfl) ?_
  refine y_if_ge hx hb (by omega) (tgt := 8) dL_handle_1 (by decide) (fun c1 => ?_) (fun c1 => ?_)
  · refine lv_iload_n hx hb dL_handle_8 rfl (lv_at hl 0 rfl) ?_
    refine lv_bipush (v := nI 32) hx hb dL_handle_9 (by decide) ?_
    refine lv_aload_n hx hb dL_handle_11 rfl (lv_at hl 1 rfl) ?_
    refine lv_bipush (v := nI 6) hx hb dL_handle_12 (by decide) ?_
    refine lv_iload_n hx hb dL_handle_14 rfl (lv_at hl 0 rfl) ?_
    refine y_imul hx hb dL_handle_15 ?_
    refine lv_iconst (v := nI 1) hx hb dL_handle_16 (by decide) ?_
    refine y_iadd hx hb dL_handle_17 ?_
    refine n_ld1 (i := (6 * k) + 1) hx hb hK hL (by omega) dL_handle_18 ?_
    refine x_top (y := (nI (mHad E k))) (hE.2.1 k hk) ?_
    refine y_imul hx hb dL_handle_19 ?_
    refine y_iadd hx hb dL_handle_20 ?_
    exact r_i hx hb hrt9 hlk hS (Nat.le_of_ble_eq_true rfl) (Nat.le_of_ble_eq_true rfl) dL_handle_21 (⟨rfl, by unfold handle; rfl⟩)
  · exact c1.elim
set_option maxHeartbeats 4000000 in
set_option maxRecDepth 100000 in
theorem c_L_handleN (l : Launch) {D : va_G} {T : Nat → ClassId} {dE mi : Nat} {A : Nat → Prop} {g : Nat} {Y : Nat → Nat → Int32} {H : Heap} (hL : SL T g Y H) : vx_Met l yL_handle wsL_handle (rmL 0 0 0) (PcE D T dE mi A H [.int ((-1)), .ref (g + 1)]) (QI A (fun r H1 => H1 = H ∧ r = -1)) (XX A (XN)) 0 0 A := by
  refine entry (cc := cL_handle) (maxL := 2) (ret := (some .int)) (by decide) rfl (Nat.le_of_ble_eq_true rfl) ?_
  intro p e s m args below meth c hx hb hrt9 hml hown hts hlk hnt hnm hev hS ls hl
  have hown : s.vm.findClass RL = some m.cls := hown
  have hK := hev.1
  have hl : lv_has ls 2 [(0, .int ((-1))), (1, .ref (g + 1))] := hl
  refine lv_iload_n hx hb dL_handle_0 rfl (lv_at hl 0 rfl) ?_
  refine lv_if_ge (tgt := 8) hx hb dL_handle_1 (by decide) (fun c1 => ?_) (fun c1 => ?_)
  · exact absurd c1 (by decide)
  · refine lv_iconst (v := -1) hx hb dL_handle_4 (by decide) ?_
    refine lv_goto (tgt := 21) hx hb dL_handle_5 (by decide) ?_
    exact r_i hx hb hrt9 hlk hS (Nat.le_of_ble_eq_true rfl) (Nat.le_of_ble_eq_true rfl) dL_handle_21 (⟨rfl, rfl⟩)
/-- a handle of an entity, or of none -/
theorem c_L_handleO (l : Launch) {D : va_G} {T : Nat → ClassId} {dE mi : Nat} {A : Nat → Prop} {g : Nat} {Y : Nat → Nat → Int32} {H : Heap} (hL : SL T g Y H) {E : mE} (hE : LE Y E) {o : Option Nat} (ho : ∀ k, o = some k → k < 10) : vx_Met l yL_handle wsL_handle (rmL 0 0 0) (PcE D T dE mi A H [.int (nO o), .ref (g + 1)]) (QI A (fun r H1 => H1 = H ∧ r = hdlO E o)) (XX A XN) 0 0 A := by
  cases o with
  | none => exact c_L_handleN l hL
  | some k => exact c_L_handle l hL hE (ho k rfl)
set_option maxHeartbeats 4000000 in
set_option maxRecDepth 100000 in
theorem c_L_row (l : Launch) {D : va_G} {T : Nat → ClassId} {dE mi : Nat} {g : Nat} {Y : Nat → Nat → Int32} {H : Heap} (hL : SL T g Y H) {R : mR} (hw : LRw Y R) (ok : okR R) {d : Nat} (hd : d < 64) : vx_Met l yL_row wsL_row (rmL 0 0 0) (PcE D T dE mi (AS g) H [.int (nI d), .ref (g + 4), .ref (g + 9)]) (QI (AS g) (fun r H1 => ∃ Y1, SL T g Y1 H1 ∧ LRw Y1 (rowEns R d) ∧ r = nI (row R d) ∧ (∀ j, j ≠ 4 → j ≠ 9 → Y1 j = Y j) ∧ ∀ i, i ≠ 0 → Y1 9 i = Y 9 i)) (XX (AS g) (XN)) 0 0 (AS g) := by
  refine entry (cc := cL_row) (maxL := 4) (ret := (some .int)) (by decide) rfl (Nat.le_of_ble_eq_true rfl) ?_
  intro p e s m args below meth c hx hb hrt9 hml hown hts hlk hnt hnm hev hS ls hl
  have hown : s.vm.findClass RL = some m.cls := hown
  have hK := hev.1
  have hl : lv_has ls 4 [(0, .int (nI d)), (1, .ref (g + 4)), (2, .ref (g + 9))] := hl
  have h64 := ok.le
  refine lv_iconst (v := nI 0) hx hb dL_row_0 (by decide) ?_
  refine lv_istore_n (lv' := [(3, .int (nI 0)), (0, .int (nI d)), (1, .ref (g + 4)), (2, .ref (g + 9))]) hx hb dL_row_1 rfl hl (by decide) rfl (fun ls hl => ?_)
  have loop2 : ∀ (n : Nat) (i : Nat), rN R - i < n → (i ≤ rN R) → (∀ j, j < i → rS R j ≠ d) → ∀ (ls : Array Slot), lv_has ls 4 [(3, .int (nI i)), (0, .int (nI d)), (1, .ref (g + 4)), (2, .ref (g + 9))] → W p l e (rmL 0 0 0) s m args below meth c H [] (0) (0) (vx_MQ below (QI (AS g) (fun r H1 => ∃ Y1, SL T g Y1 H1 ∧ LRw Y1 (rowEns R d) ∧ r = nI (row R d) ∧ (∀ j, j ≠ 4 → j ≠ 9 → Y1 j = Y j) ∧ ∀ i, i ≠ 0 → Y1 9 i = Y 9 i)) (XX (AS g) (XN)) args s 0 0 (AS g)) (F0 m 2 ls []) := by
    intro n
    induction n with
    | zero => intro i hfuel; exact absurd hfuel (Nat.not_lt_zero _)
    | succ n ih2 =>
      intro i hfuel hi hno ls hl
      refine lv_iload_n hx hb dL_row_2 rfl (lv_at hl 0 rfl) ?_
      refine lv_aload_n hx hb dL_row_3 rfl (lv_at hl 3 rfl) ?_
      refine lv_iconst (v := nI 0) hx hb dL_row_4 (by decide) ?_
      refine n_ld9 (i := 0) hx hb hK hL (by omega) dL_row_5 ?_
      refine x_top (y := (nI (rN R))) (hw.1) ?_
      refine y_icmp_ge hx hb (by omega) (by omega) (tgt := 22) dL_row_6 (by decide) (fun c6 => ?_) (fun c6 => ?_)
      · have hro : row R d = rN R := row_is (by omega) (fun j hj => hno j (by omega)) (Or.inl rfl)
        have hir : i = rN R := by omega
        have hn64 := ok.new hd hro
        have hi64 : i < 64 := by omega
        refine lv_aload_n hx hb dL_row_22 rfl (lv_at hl 2 rfl) ?_
        refine lv_iload_n hx hb dL_row_23 rfl (lv_at hl 0 rfl) ?_
        refine lv_iload_n hx hb dL_row_24 rfl (lv_at hl 1 rfl) ?_
        refine n_st4 (i := i) (v := (nI d)) hx hb hK hS hL (fun _ h => h) (by omega) dL_row_25 (fun H1 locs1 hL hz1 hq1 hS => ?_)
        refine lv_aload_n hx hb dL_row_26 rfl (lv_at hl 3 rfl) ?_
        refine lv_iconst (v := nI 0) hx hb dL_row_27 (by decide) ?_
        refine lv_iload_n hx hb dL_row_28 rfl (lv_at hl 0 rfl) ?_
        refine lv_aload_n hx hb dL_row_29 rfl (lv_at hl 3 rfl) ?_
        refine lv_iconst (v := nI 0) hx hb dL_row_30 (by decide) ?_
        refine n_ld9 (i := 0) hx hb hK hL (by omega) dL_row_31 ?_
        refine x_top (y := (nI (rN R))) (by show Y 9 0 = _; exact hw.1) ?_
        refine y_icmp_ne hx hb (by omega) (by omega) (tgt := 41) dL_row_32 (by decide) (fun c32 => ?_) (fun c32 => ?_)
        · exact absurd hir c32
        · refine lv_iload_n hx hb dL_row_35 rfl (lv_at hl 0 rfl) ?_
          refine lv_iconst (v := nI 1) hx hb dL_row_36 (by decide) ?_
          refine y_iadd hx hb dL_row_37 ?_
          refine lv_goto (tgt := 44) hx hb dL_row_38 (by decide) ?_
          refine n_st9 (i := 0) (v := (nI (i + 1))) hx hb hK hS hL (fun _ h => h) (by omega) dL_row_44 (fun H2 locs2 hL hz2 hq2 hS => ?_)
          refine lv_iload_n hx hb dL_row_45 rfl (lv_at hl 0 rfl) ?_
          exact r_i hx hb hrt9 hlk hS (Nat.le_of_ble_eq_true rfl) (Nat.le_of_ble_eq_true rfl) dL_row_46 (⟨_, hL, lrw_new hw hro (by show nI (i + 1) = _; rw [hir]) (fun x => by rw [← hir]; rfl), by rw [hro, hir], fun j h4 h9 => by simp only [up2, if_neg h4, if_neg h9], fun j hj => upd_n hj⟩)
      · refine lv_aload_n hx hb dL_row_9 rfl (lv_at hl 2 rfl) ?_
        refine lv_iload_n hx hb dL_row_10 rfl (lv_at hl 0 rfl) ?_
        refine n_ld4 (i := i) hx hb hK hL (by omega) dL_row_11 ?_
        have hs64 := ok.1 i c6
        refine x_top (y := (nI (rS R i))) (hw.2 i c6) ?_
        refine lv_iload_n hx hb dL_row_12 rfl (lv_at hl 1 rfl) ?_
        refine y_icmp_eq hx hb (by omega) (by omega) (tgt := 22) dL_row_13 (by decide) (fun c13 => ?_) (fun c13 => ?_)
        · have hro : row R d = i := row_is hi hno (Or.inr c13)
          have hi64 : i < 64 := by omega
          refine lv_aload_n hx hb dL_row_22 rfl (lv_at hl 2 rfl) ?_
          refine lv_iload_n hx hb dL_row_23 rfl (lv_at hl 0 rfl) ?_
          refine lv_iload_n hx hb dL_row_24 rfl (lv_at hl 1 rfl) ?_
          refine n_st4 (i := i) (v := (nI d)) hx hb hK hS hL (fun _ h => h) (by omega) dL_row_25 (fun H3 locs3 hL hz3 hq3 hS => ?_)
          refine lv_aload_n hx hb dL_row_26 rfl (lv_at hl 3 rfl) ?_
          refine lv_iconst (v := nI 0) hx hb dL_row_27 (by decide) ?_
          refine lv_iload_n hx hb dL_row_28 rfl (lv_at hl 0 rfl) ?_
          refine lv_aload_n hx hb dL_row_29 rfl (lv_at hl 3 rfl) ?_
          refine lv_iconst (v := nI 0) hx hb dL_row_30 (by decide) ?_
          refine n_ld9 (i := 0) hx hb hK hL (by omega) dL_row_31 ?_
          refine x_top (y := (nI (rN R))) (by show Y 9 0 = _; exact hw.1) ?_
          refine y_icmp_ne hx hb (by omega) (by omega) (tgt := 41) dL_row_32 (by decide) (fun c32 => ?_) (fun c32 => ?_)
          · refine lv_aload_n hx hb dL_row_41 rfl (lv_at hl 3 rfl) ?_
            refine lv_iconst (v := nI 0) hx hb dL_row_42 (by decide) ?_
            refine n_ld9 (i := 0) hx hb hK hL (by omega) dL_row_43 ?_
            refine x_top (y := (nI (rN R))) (by show Y 9 0 = _; exact hw.1) ?_
            refine n_st9 (i := 0) (v := (nI (rN R))) hx hb hK hS hL (fun _ h => h) (by omega) dL_row_44 (fun H4 locs4 hL hz4 hq4 hS => ?_)
            refine lv_iload_n hx hb dL_row_45 rfl (lv_at hl 0 rfl) ?_
            exact r_i hx hb hrt9 hlk hS (Nat.le_of_ble_eq_true rfl) (Nat.le_of_ble_eq_true rfl) dL_row_46 (⟨_, hL, lrw_old hw (by omega) (by show nI (rN R) = _; rfl) (fun x => by rw [hro]; rfl), by rw [hro], fun j h4 h9 => by simp only [up2, if_neg h4, if_neg h9], fun j hj => upd_n hj⟩)
          · omega
        · refine lv_iinc (v := (nI (i + 1))) (lv' := [(3, .int (nI (i + 1))), (0, .int (nI d)), (1, .ref (g + 4)), (2, .ref (g + 9))]) hx hb dL_row_16 hl (k := 0) rfl (nI_inc _) (by decide) rfl (fun ls hl => ?_)
          refine lv_goto (tgt := 2) hx hb dL_row_19 (by decide) ?_
          exact ih2 (i + 1) (by omega) (by omega) (fun j hj => by rcases Nat.lt_succ_iff_lt_or_eq.mp hj with q | q; exact hno j q; rw [q]; exact c13) ls (lv_sub hl [0, 1, 2, 3] rfl)
  exact loop2 (rN R - 0 + 1) 0 (Nat.lt_succ_self _) (by omega) (fun j hj => absurd hj (Nat.not_lt_zero j)) ls (lv_sub hl [0, 1, 2, 3] rfl)
set_option maxHeartbeats 4000000 in
set_option maxRecDepth 100000 in
theorem c_L_many (l : Launch) {D : va_G} {T : Nat → ClassId} {dE mi : Nat} {A : Nat → Prop} {g : Nat} {Y : Nat → Nat → Int32} {H : Heap} (hL : SL T g Y H) (x : Int32) : vx_Met l yL_many wsL_many (rmL 0 0 0) (PcE D T dE mi A H [.int x, .ref (g + 1)]) (QI A (fun r H1 => H1 = H ∧ r = nI (cnt (inRow (Y 1) x) 10))) (XX A (XN)) 0 0 A := by
  refine entry (cc := cL_many) (maxL := 4) (ret := (some .int)) (by decide) rfl (Nat.le_of_ble_eq_true rfl) ?_
  intro p e s m args below meth c hx hb hrt9 hml hown hts hlk hnt hnm hev hS ls hl
  have hown : s.vm.findClass RL = some m.cls := hown
  have hK := hev.1
  have hl : lv_has ls 4 [(0, .int x), (1, .ref (g + 1))] := hl
  refine lv_iconst (v := nI 0) hx hb dL_many_0 (by decide) ?_
  refine lv_istore_n (lv' := [(2, .int (nI 0)), (0, .int x), (1, .ref (g + 1))]) hx hb dL_many_1 rfl hl (by decide) rfl (fun ls hl => ?_)
  refine lv_iconst (v := nI 0) hx hb dL_many_2 (by decide) ?_
  refine lv_istore_n (lv' := [(3, .int (nI 0)), (2, .int (nI 0)), (0, .int x), (1, .ref (g + 1))]) hx hb dL_many_3 rfl hl (by decide) rfl (fun ls hl => ?_)
  have loop4 : ∀ (n : Nat) (i : Nat), 10 - i < n → (i ≤ 10) → ∀ (ls : Array Slot), lv_has ls 4 [(3, .int (nI i)), (2, .int (nI (cnt (inRow (Y 1) x) i))), (0, .int x), (1, .ref (g + 1))] → W p l e (rmL 0 0 0) s m args below meth c H [] (0) (0) (vx_MQ below (QI A (fun r H1 => H1 = H ∧ r = nI (cnt (inRow (Y 1) x) 10))) (XX A (XN)) args s 0 0 A) (F0 m 4 ls []) := by
    intro n
    induction n with
    | zero => intro i hfuel; exact absurd hfuel (Nat.not_lt_zero _)
    | succ n ih4 =>
      intro i hfuel hi ls hl
      refine lv_iload_n hx hb dL_many_4 rfl (lv_at hl 0 rfl) ?_
      refine lv_bipush (v := nI 10) hx hb dL_many_5 (by decide) ?_
      refine y_icmp_ge hx hb (by omega) (Nat.le_of_ble_eq_true rfl) (tgt := 46) dL_many_7 (by decide) (fun c7 => ?_) (fun c7 => ?_)
      · have e10 : i = 10 := by omega
        refine lv_iload_n hx hb dL_many_46 rfl (lv_at hl 1 rfl) ?_
        exact r_i hx hb hrt9 hlk hS (Nat.le_of_ble_eq_true rfl) (Nat.le_of_ble_eq_true rfl) dL_many_47 (⟨rfl, by rw [e10]⟩)
      · refine lv_iload_n hx hb dL_many_10 rfl (lv_at hl 1 rfl) ?_
        refine lv_aload_n hx hb dL_many_11 rfl (lv_at hl 3 rfl) ?_
        refine lv_bipush (v := nI 6) hx hb dL_many_12 (by decide) ?_
        refine lv_iload_n hx hb dL_many_14 rfl (lv_at hl 0 rfl) ?_
        refine y_imul hx hb dL_many_15 ?_
        refine n_ld1 (i := 6 * i) hx hb hK hL (by omega) dL_many_16 ?_
        refine lv_iconst (v := nI 1) hx hb dL_many_17 (by decide) ?_
        refine lv_icmp_ne (tgt := 37) hx hb dL_many_18 (by decide) (fun c18 => ?_) (fun c18 => ?_)
        · have hbb : inRow (Y 1) x i = false := by unfold inRow iv; rw [decide_eq_false c18]; rfl
          refine lv_iconst (v := nI 0) hx hb dL_many_37 (by decide) ?_
          refine y_iadd hx hb dL_many_38 ?_
          refine lv_istore_n (lv' := [(2, .int (nI ((cnt (inRow (Y 1) x) i) + 0))), (3, .int (nI i)), (0, .int x), (1, .ref (g + 1))]) hx hb dL_many_39 rfl hl (by decide) rfl (fun ls hl => ?_)
          have hl : lv_has ls 4 [(2, .int (nI (cnt (inRow (Y 1) x) (i + 1)))), (3, .int (nI i)), (0, .int x), (1, .ref (g + 1))] := by
            have e9 : (nI ((cnt (inRow (Y 1) x) i) + 0)) = (nI (cnt (inRow (Y 1) x) (i + 1))) := congrArg nI (cnt_f hbb).symm
            first
              | (rw [← e9]; exact hl)
              | (rw [e9] at hl; exact hl)
          refine lv_iinc (v := (nI (i + 1))) (lv' := [(3, .int (nI (i + 1))), (2, .int (nI (cnt (inRow (Y 1) x) (i + 1)))), (0, .int x), (1, .ref (g + 1))]) hx hb dL_many_40 hl (k := 1) rfl (nI_inc _) (by decide) rfl (fun ls hl => ?_)
          refine lv_goto (tgt := 4) hx hb dL_many_43 (by decide) ?_
          exact ih4 (i + 1) (by omega) (by omega) ls (lv_sub hl [0, 1, 2, 3] rfl)
        · refine lv_aload_n hx hb dL_many_21 rfl (lv_at hl 3 rfl) ?_
          refine lv_bipush (v := nI 6) hx hb dL_many_22 (by decide) ?_
          refine lv_iload_n hx hb dL_many_24 rfl (lv_at hl 0 rfl) ?_
          refine y_imul hx hb dL_many_25 ?_
          refine lv_iconst (v := nI 4) hx hb dL_many_26 (by decide) ?_
          refine y_iadd hx hb dL_many_27 ?_
          refine n_ld1 (i := (6 * i) + 4) hx hb hK hL (by omega) dL_many_28 ?_
          refine lv_iload_n hx hb dL_many_29 rfl (lv_at hl 2 rfl) ?_
          refine lv_icmp_ne (tgt := 37) hx hb dL_many_30 (by decide) (fun c30 => ?_) (fun c30 => ?_)
          · have hbb : inRow (Y 1) x i = false := by unfold inRow; rw [decide_eq_false c30, Bool.and_false]
            refine lv_iconst (v := nI 0) hx hb dL_many_37 (by decide) ?_
            refine y_iadd hx hb dL_many_38 ?_
            refine lv_istore_n (lv' := [(2, .int (nI ((cnt (inRow (Y 1) x) i) + 0))), (3, .int (nI i)), (0, .int x), (1, .ref (g + 1))]) hx hb dL_many_39 rfl hl (by decide) rfl (fun ls hl => ?_)
            have hl : lv_has ls 4 [(2, .int (nI (cnt (inRow (Y 1) x) (i + 1)))), (3, .int (nI i)), (0, .int x), (1, .ref (g + 1))] := by
              have e9 : (nI ((cnt (inRow (Y 1) x) i) + 0)) = (nI (cnt (inRow (Y 1) x) (i + 1))) := congrArg nI (cnt_f hbb).symm
              first
                | (rw [← e9]; exact hl)
                | (rw [e9] at hl; exact hl)
            refine lv_iinc (v := (nI (i + 1))) (lv' := [(3, .int (nI (i + 1))), (2, .int (nI (cnt (inRow (Y 1) x) (i + 1)))), (0, .int x), (1, .ref (g + 1))]) hx hb dL_many_40 hl (k := 1) rfl (nI_inc _) (by decide) rfl (fun ls hl => ?_)
            refine lv_goto (tgt := 4) hx hb dL_many_43 (by decide) ?_
            exact ih4 (i + 1) (by omega) (by omega) ls (lv_sub hl [0, 1, 2, 3] rfl)
          · have hbb : inRow (Y 1) x i = true := by unfold inRow iv; rw [decide_eq_true c18, decide_eq_true c30]; rfl
            refine lv_iconst (v := nI 1) hx hb dL_many_33 (by decide) ?_
            refine lv_goto (tgt := 38) hx hb dL_many_34 (by decide) ?_
            refine y_iadd hx hb dL_many_38 ?_
            refine lv_istore_n (lv' := [(2, .int (nI ((cnt (inRow (Y 1) x) i) + 1))), (3, .int (nI i)), (0, .int x), (1, .ref (g + 1))]) hx hb dL_many_39 rfl hl (by decide) rfl (fun ls hl => ?_)
            have hl : lv_has ls 4 [(2, .int (nI (cnt (inRow (Y 1) x) (i + 1)))), (3, .int (nI i)), (0, .int x), (1, .ref (g + 1))] := by
              have e9 : (nI ((cnt (inRow (Y 1) x) i) + 1)) = (nI (cnt (inRow (Y 1) x) (i + 1))) := congrArg nI (cnt_t hbb).symm
              first
                | (rw [← e9]; exact hl)
                | (rw [e9] at hl; exact hl)
            refine lv_iinc (v := (nI (i + 1))) (lv' := [(3, .int (nI (i + 1))), (2, .int (nI (cnt (inRow (Y 1) x) (i + 1)))), (0, .int x), (1, .ref (g + 1))]) hx hb dL_many_40 hl (k := 1) rfl (nI_inc _) (by decide) rfl (fun ls hl => ?_)
            refine lv_goto (tgt := 4) hx hb dL_many_43 (by decide) ?_
            exact ih4 (i + 1) (by omega) (by omega) ls (lv_sub hl [0, 1, 2, 3] rfl)
  exact loop4 (10 - 0 + 1) 0 (Nat.lt_succ_self _) (by omega) ls (lv_sub hl [0, 1, 2, 3] rfl)
set_option maxHeartbeats 4000000 in
set_option maxRecDepth 100000 in
theorem c_L_at (l : Launch) {D : va_G} {T : Nat → ClassId} {dE mi : Nat} {A : Nat → Prop} {g : Nat} {Y : Nat → Nat → Int32} {H : Heap} (hL : SL T g Y H) (x y1 : Int32) : vx_Met l yL_at wsL_at (rmL 0 0 0) (PcE D T dE mi A H [.int x, .int y1, .ref (g + 1)]) (QI A (fun r H1 => H1 = H ∧ ∃ o, r = nO o ∧ isFst (inPl (Y 1) x y1) 10 o)) (XX A (XN)) 0 0 A := by
  refine entry (cc := cL_at) (maxL := 4) (ret := (some .int)) (by decide) rfl (Nat.le_of_ble_eq_true rfl) ?_
  intro p e s m args below meth c hx hb hrt9 hml hown hts hlk hnt hnm hev hS ls hl
  have hown : s.vm.findClass RL = some m.cls := hown
  have hK := hev.1
  have hl : lv_has ls 4 [(0, .int x), (1, .int y1), (2, .ref (g + 1))] := hl
  refine lv_iconst (v := nI 0) hx hb dL_at_0 (by decide) ?_
  refine lv_istore_n (lv' := [(3, .int (nI 0)), (0, .int x), (1, .int y1), (2, .ref (g + 1))]) hx hb dL_at_1 rfl hl (by decide) rfl (fun ls hl => ?_)
  have loop2 : ∀ (n : Nat) (i : Nat), 10 - i < n → (i ≤ 10) → (∀ j, j < i → inPl (Y 1) x y1 j = false) → ∀ (ls : Array Slot), lv_has ls 4 [(3, .int (nI i)), (0, .int x), (1, .int y1), (2, .ref (g + 1))] → W p l e (rmL 0 0 0) s m args below meth c H [] (0) (0) (vx_MQ below (QI A (fun r H1 => H1 = H ∧ ∃ o, r = nO o ∧ isFst (inPl (Y 1) x y1) 10 o)) (XX A (XN)) args s 0 0 A) (F0 m 2 ls []) := by
    intro n
    induction n with
    | zero => intro i hfuel; exact absurd hfuel (Nat.not_lt_zero _)
    | succ n ih2 =>
      intro i hfuel hi hno ls hl
      refine lv_iload_n hx hb dL_at_2 rfl (lv_at hl 0 rfl) ?_
      refine lv_bipush (v := nI 10) hx hb dL_at_3 (by decide) ?_
      refine y_icmp_ge hx hb (by omega) (Nat.le_of_ble_eq_true rfl) (tgt := 50) dL_at_5 (by decide) (fun c5 => ?_) (fun c5 => ?_)
      · have e10 : i = 10 := by omega
        refine lv_iconst (v := -1) hx hb dL_at_50 (by decide) ?_
        exact r_i hx hb hrt9 hlk hS (Nat.le_of_ble_eq_true rfl) (Nat.le_of_ble_eq_true rfl) dL_at_51 (⟨rfl, none, rfl, fun j hj => hno j (by omega)⟩)
      · refine lv_aload_n hx hb dL_at_8 rfl (lv_at hl 3 rfl) ?_
        refine lv_bipush (v := nI 6) hx hb dL_at_9 (by decide) ?_
        refine lv_iload_n hx hb dL_at_11 rfl (lv_at hl 0 rfl) ?_
        refine y_imul hx hb dL_at_12 ?_
        refine n_ld1 (i := 6 * i) hx hb hK hL (by omega) dL_at_13 ?_
        refine lv_iconst (v := nI 1) hx hb dL_at_14 (by decide) ?_
        refine lv_icmp_ne (tgt := 44) hx hb dL_at_15 (by decide) (fun c15 => ?_) (fun c15 => ?_)
        · have hbb : inPl (Y 1) x y1 i = false := by unfold inPl inRow iv; rw [decide_eq_false c15]; rfl
          refine lv_iinc (v := (nI (i + 1))) (lv' := [(3, .int (nI (i + 1))), (0, .int x), (1, .int y1), (2, .ref (g + 1))]) hx hb dL_at_44 hl (k := 0) rfl (nI_inc _) (by decide) rfl (fun ls hl => ?_)
          refine lv_goto (tgt := 2) hx hb dL_at_47 (by decide) ?_
          exact ih2 (i + 1) (by omega) (by omega) (fun j hj => by rcases Nat.lt_succ_iff_lt_or_eq.mp hj with q | q; exact hno j q; rw [q]; exact hbb) ls (lv_sub hl [0, 1, 2, 3] rfl)
        · refine lv_aload_n hx hb dL_at_18 rfl (lv_at hl 3 rfl) ?_
          refine lv_bipush (v := nI 6) hx hb dL_at_19 (by decide) ?_
          refine lv_iload_n hx hb dL_at_21 rfl (lv_at hl 0 rfl) ?_
          refine y_imul hx hb dL_at_22 ?_
          refine lv_iconst (v := nI 4) hx hb dL_at_23 (by decide) ?_
          refine y_iadd hx hb dL_at_24 ?_
          refine n_ld1 (i := (6 * i) + 4) hx hb hK hL (by omega) dL_at_25 ?_
          refine lv_iload_n hx hb dL_at_26 rfl (lv_at hl 1 rfl) ?_
          refine lv_icmp_ne (tgt := 44) hx hb dL_at_27 (by decide) (fun c27 => ?_) (fun c27 => ?_)
          · have hbb : inPl (Y 1) x y1 i = false := by unfold inPl inRow; rw [decide_eq_false c27, Bool.and_false]; rfl
            refine lv_iinc (v := (nI (i + 1))) (lv' := [(3, .int (nI (i + 1))), (0, .int x), (1, .int y1), (2, .ref (g + 1))]) hx hb dL_at_44 hl (k := 0) rfl (nI_inc _) (by decide) rfl (fun ls hl => ?_)
            refine lv_goto (tgt := 2) hx hb dL_at_47 (by decide) ?_
            exact ih2 (i + 1) (by omega) (by omega) (fun j hj => by rcases Nat.lt_succ_iff_lt_or_eq.mp hj with q | q; exact hno j q; rw [q]; exact hbb) ls (lv_sub hl [0, 1, 2, 3] rfl)
          · refine lv_aload_n hx hb dL_at_30 rfl (lv_at hl 3 rfl) ?_
            refine lv_bipush (v := nI 6) hx hb dL_at_31 (by decide) ?_
            refine lv_iload_n hx hb dL_at_33 rfl (lv_at hl 0 rfl) ?_
            refine y_imul hx hb dL_at_34 ?_
            refine lv_iconst (v := nI 5) hx hb dL_at_35 (by decide) ?_
            refine y_iadd hx hb dL_at_36 ?_
            refine n_ld1 (i := (6 * i) + 5) hx hb hK hL (by omega) dL_at_37 ?_
            refine lv_iload_n hx hb dL_at_38 rfl (lv_at hl 2 rfl) ?_
            refine lv_icmp_ne (tgt := 44) hx hb dL_at_39 (by decide) (fun c39 => ?_) (fun c39 => ?_)
            · have hbb : inPl (Y 1) x y1 i = false := by unfold inPl; rw [decide_eq_false c39, Bool.and_false]
              refine lv_iinc (v := (nI (i + 1))) (lv' := [(3, .int (nI (i + 1))), (0, .int x), (1, .int y1), (2, .ref (g + 1))]) hx hb dL_at_44 hl (k := 0) rfl (nI_inc _) (by decide) rfl (fun ls hl => ?_)
              refine lv_goto (tgt := 2) hx hb dL_at_47 (by decide) ?_
              exact ih2 (i + 1) (by omega) (by omega) (fun j hj => by rcases Nat.lt_succ_iff_lt_or_eq.mp hj with q | q; exact hno j q; rw [q]; exact hbb) ls (lv_sub hl [0, 1, 2, 3] rfl)
            · have hbb : inPl (Y 1) x y1 i = true := by unfold inPl inRow iv; rw [decide_eq_true c15, decide_eq_true c27, decide_eq_true c39]; rfl
              refine lv_iload_n hx hb dL_at_42 rfl (lv_at hl 0 rfl) ?_
              exact r_i hx hb hrt9 hlk hS (Nat.le_of_ble_eq_true rfl) (Nat.le_of_ble_eq_true rfl) dL_at_43 (⟨rfl, some i, rfl, by omega, hbb, hno⟩)
  exact loop2 (10 - 0 + 1) 0 (Nat.lt_succ_self _) (by omega) (fun j hj => absurd hj (Nat.not_lt_zero j)) ls (lv_sub hl [0, 1, 2, 3] rfl)
set_option maxHeartbeats 4000000 in
set_option maxRecDepth 100000 in
theorem c_L_there (l : Launch) {D : va_G} {T : Nat → ClassId} {dE mi : Nat} {A : Nat → Prop} {g : Nat} {Y : Nat → Nat → Int32} {H : Heap} (hL : SL T g Y H) {E : mE} (hE : LE Y E) : vx_Met l yL_there wsL_there (rmL 0 0 0) (PcE D T dE mi A H [.ref (g + 1)]) (QI A (fun r H1 => H1 = H ∧ r = nI (cnt (mAl E) 10))) (XX A (XN)) 0 0 A := by
  refine entry (cc := cL_there) (maxL := 3) (ret := (some .int)) (by decide) rfl (Nat.le_of_ble_eq_true rfl) ?_
  intro p e s m args below meth c hx hb hrt9 hml hown hts hlk hnt hnm hev hS ls hl
  have hown : s.vm.findClass RL = some m.cls := hown
  have hK := hev.1
  have hl : lv_has ls 3 [(0, .ref (g + 1))] := hl
  refine lv_iconst (v := nI 0) hx hb dL_there_0 (by decide) ?_
  refine lv_istore_n (lv' := [(1, .int (nI 0)), (0, .ref (g + 1))]) hx hb dL_there_1 rfl hl (by decide) rfl (fun ls hl => ?_)
  refine lv_iconst (v := nI 0) hx hb dL_there_2 (by decide) ?_
  refine lv_istore_n (lv' := [(2, .int (nI 0)), (1, .int (nI 0)), (0, .ref (g + 1))]) hx hb dL_there_3 rfl hl (by decide) rfl (fun ls hl => ?_)
  have loop4 : ∀ (n : Nat) (i : Nat), 10 - i < n → (i ≤ 10) → ∀ (ls : Array Slot), lv_has ls 3 [(2, .int (nI i)), (1, .int (nI (cnt (mAl E) i))), (0, .ref (g + 1))] → W p l e (rmL 0 0 0) s m args below meth c H [] (0) (0) (vx_MQ below (QI A (fun r H1 => H1 = H ∧ r = nI (cnt (mAl E) 10))) (XX A (XN)) args s 0 0 A) (F0 m 4 ls []) := by
    intro n
    induction n with
    | zero => intro i hfuel; exact absurd hfuel (Nat.not_lt_zero _)
    | succ n ih4 =>
      intro i hfuel hi ls hl
      refine lv_iload_n hx hb dL_there_4 rfl (lv_at hl 0 rfl) ?_
      refine lv_bipush (v := nI 10) hx hb dL_there_5 (by decide) ?_
      refine y_icmp_ge hx hb (by omega) (Nat.le_of_ble_eq_true rfl) (tgt := 25) dL_there_7 (by decide) (fun c7 => ?_) (fun c7 => ?_)
      · have e10 : i = 10 := by omega
        refine lv_iload_n hx hb dL_there_25 rfl (lv_at hl 1 rfl) ?_
        exact r_i hx hb hrt9 hlk hS (Nat.le_of_ble_eq_true rfl) (Nat.le_of_ble_eq_true rfl) dL_there_26 (⟨rfl, by rw [e10]⟩)
      · refine lv_iload_n hx hb dL_there_10 rfl (lv_at hl 1 rfl) ?_
        refine lv_aload_n hx hb dL_there_11 rfl (lv_at hl 2 rfl) ?_
        refine lv_bipush (v := nI 6) hx hb dL_there_12 (by decide) ?_
        refine lv_iload_n hx hb dL_there_14 rfl (lv_at hl 0 rfl) ?_
        refine y_imul hx hb dL_there_15 ?_
        refine n_ld1 (i := 6 * i) hx hb hK hL (by omega) dL_there_16 ?_
        refine x_top (y := (bI (mAl E i))) (hE.1 i (by omega)) ?_
        refine lv_iadd hx hb dL_there_17 ?_
        refine x_top (y := (nI (cnt (mAl E) (i + 1)))) (cnt_bI _ _) ?_
        refine lv_istore_n (lv' := [(1, .int (nI (cnt (mAl E) (i + 1)))), (2, .int (nI i)), (0, .ref (g + 1))]) hx hb dL_there_18 rfl hl (by decide) rfl (fun ls hl => ?_)
        refine lv_iinc (v := (nI (i + 1))) (lv' := [(2, .int (nI (i + 1))), (1, .int (nI (cnt (mAl E) (i + 1)))), (0, .ref (g + 1))]) hx hb dL_there_19 hl (k := 1) rfl (nI_inc _) (by decide) rfl (fun ls hl => ?_)
        refine lv_goto (tgt := 4) hx hb dL_there_22 (by decide) ?_
        exact ih4 (i + 1) (by omega) (by omega) ls (lv_sub hl [0, 1, 2] rfl)
  exact loop4 (10 - 0 + 1) 0 (Nat.lt_succ_self _) (by omega) ls (lv_sub hl [0, 1, 2] rfl)
set_option maxHeartbeats 4000000 in
set_option maxRecDepth 100000 in
theorem c_L_answers (l : Launch) {D : va_G} {T : Nat → ClassId} {dE mi : Nat} {A : Nat → Prop} {g : Nat} {Y : Nat → Nat → Int32} {H : Heap} (hL : SL T g Y H) {Q9 : mQ} (hQ : LQ Y Q9) (iQ : InvQ Q9) {d q : Nat} (hd : d < 64) (hq : q < Q9.1) : vx_Met l yL_answers wsL_answers (rmL 0 0 0) (PcE D T dE mi A H [.int (nI d), .int (nI q), .ref (g + 5)]) (QI A (fun r H1 => H1 = H ∧ r = bI (ansQ Q9 q d))) (XX A (XN)) 0 0 A := by
  refine entry (cc := cL_answers) (maxL := 3) (ret := (some .boolean)) (by decide) rfl (Nat.le_of_ble_eq_true rfl) ?_
  intro p e s m args below meth c hx hb hrt9 hml hown hts hlk hnt hnm hev hS ls hl
  have hown : s.vm.findClass RL = some m.cls := hown
  have hK := hev.1
  have hl : lv_has ls 3 [(0, .int (nI d)), (1, .int (nI q)), (2, .ref (g + 5))] := hl
  have h8 := iQ.1
  obtain ⟨a6, o6, y6⟩ := iQ.2 q hq
  obtain ⟨q1, q2, q3⟩ := hQ.2 q hq
  refine lv_aload_n hx hb dL_answers_0 rfl (lv_at hl 2 rfl) ?_
  refine lv_iconst (v := nI 3) hx hb dL_answers_1 (by decide) ?_
  refine lv_iload_n hx hb dL_answers_2 rfl (lv_at hl 1 rfl) ?_
  refine y_imul hx hb dL_answers_3 ?_
  refine n_ld5 (i := 3 * q) hx hb hK hL (by omega) dL_answers_4 ?_
  refine x_top (y := (nI (Q9.2.1 q))) (q1) ?_
  refine lv_iload_n hx hb dL_answers_5 rfl (lv_at hl 0 rfl) ?_
  refine lv_iconst (v := -1) hx hb dL_answers_6 (by decide) ?_
  refine lv_ixor hx hb dL_answers_7 ?_
  refine lv_iand hx hb dL_answers_8 ?_
  refine lv_if_ne (tgt := 50) hx hb dL_answers_9 (by decide) (fun c9 => ?_) (fun c9 => ?_)
  · have s1 : subB d (Q9.2.1 q) = false := by cases z : subB d (Q9.2.1 q); rfl; exact absurd ((bit_nsub d hd _ a6).mpr z) c9
    have z : ansQ Q9 q d = false := by simp [ansQ, ansB, s1]
    refine lv_iconst (v := nI 0) hx hb dL_answers_50 (by decide) ?_
    exact r_z hx hb hrt9 hlk hS (Nat.le_of_ble_eq_true rfl) (Nat.le_of_ble_eq_true rfl) dL_answers_51 rfl (⟨rfl, by rw [z]; rfl⟩)
  · have s1 := (bit_nsub d hd _ a6).mp c9
    refine lv_aload_n hx hb dL_answers_12 rfl (lv_at hl 2 rfl) ?_
    refine lv_iconst (v := nI 3) hx hb dL_answers_13 (by decide) ?_
    refine lv_iload_n hx hb dL_answers_14 rfl (lv_at hl 1 rfl) ?_
    refine y_imul hx hb dL_answers_15 ?_
    refine lv_iconst (v := nI 1) hx hb dL_answers_16 (by decide) ?_
    refine y_iadd hx hb dL_answers_17 ?_
    refine n_ld5 (i := (3 * q) + 1) hx hb hK hL (by omega) dL_answers_18 ?_
    refine x_top (y := (nI (Q9.2.2.1 q))) (q2) ?_
    refine lv_iload_n hx hb dL_answers_19 rfl (lv_at hl 0 rfl) ?_
    refine lv_iand hx hb dL_answers_20 ?_
    refine lv_if_ne (tgt := 50) hx hb dL_answers_21 (by decide) (fun c21 => ?_) (fun c21 => ?_)
    · have s2 : disB d (Q9.2.2.1 q) = false := by rw [disB_c]; exact disB_f o6 hd c21
      have z : ansQ Q9 q d = false := by simp [ansQ, ansB, s2]
      refine lv_iconst (v := nI 0) hx hb dL_answers_50 (by decide) ?_
      exact r_z hx hb hrt9 hlk hS (Nat.le_of_ble_eq_true rfl) (Nat.le_of_ble_eq_true rfl) dL_answers_51 rfl (⟨rfl, by rw [z]; rfl⟩)
    · have s2 : disB d (Q9.2.2.1 q) = true := by rw [disB_c]; exact (bit_dis0 o6 hd).mp c21
      refine lv_aload_n hx hb dL_answers_24 rfl (lv_at hl 2 rfl) ?_
      refine lv_iconst (v := nI 3) hx hb dL_answers_25 (by decide) ?_
      refine lv_iload_n hx hb dL_answers_26 rfl (lv_at hl 1 rfl) ?_
      refine y_imul hx hb dL_answers_27 ?_
      refine lv_iconst (v := nI 2) hx hb dL_answers_28 (by decide) ?_
      refine y_iadd hx hb dL_answers_29 ?_
      refine n_ld5 (i := (3 * q) + 2) hx hb hK hL (by omega) dL_answers_30 ?_
      refine x_top (y := (nI (Q9.2.2.2 q))) (q3) ?_
      refine y_if_eq hx hb (by omega) (tgt := 46) dL_answers_31 (by decide) (fun c31 => ?_) (fun c31 => ?_)
      · have z : ansQ Q9 q d = true := by simp [ansQ, ansB, s1, s2, c31]
        refine lv_iconst (v := nI 1) hx hb dL_answers_46 (by decide) ?_
        refine lv_goto (tgt := 51) hx hb dL_answers_47 (by decide) ?_
        exact r_z hx hb hrt9 hlk hS (Nat.le_of_ble_eq_true rfl) (Nat.le_of_ble_eq_true rfl) dL_answers_51 rfl (⟨rfl, by rw [z]; rfl⟩)
      · refine lv_aload_n hx hb dL_answers_34 rfl (lv_at hl 2 rfl) ?_
        refine lv_iconst (v := nI 3) hx hb dL_answers_35 (by decide) ?_
        refine lv_iload_n hx hb dL_answers_36 rfl (lv_at hl 1 rfl) ?_
        refine y_imul hx hb dL_answers_37 ?_
        refine lv_iconst (v := nI 2) hx hb dL_answers_38 (by decide) ?_
        refine y_iadd hx hb dL_answers_39 ?_
        refine n_ld5 (i := (3 * q) + 2) hx hb hK hL (by omega) dL_answers_40 ?_
        refine x_top (y := (nI (Q9.2.2.2 q))) (q3) ?_
        refine lv_iload_n hx hb dL_answers_41 rfl (lv_at hl 0 rfl) ?_
        refine lv_iand hx hb dL_answers_42 ?_
        refine lv_if_le (tgt := 50) hx hb dL_answers_43 (by decide) (fun c43 => ?_) (fun c43 => ?_)
        · have s3 : disB d (Q9.2.2.2 q) = true := by rw [disB_c]; exact (bit_le0 _ y6 _ hd).mp c43
          have hne : Q9.2.2.2 q ≠ 0 := by omega
          have z : ansQ Q9 q d = false := by simp [ansQ, ansB, s3, hne]
          refine lv_iconst (v := nI 0) hx hb dL_answers_50 (by decide) ?_
          exact r_z hx hb hrt9 hlk hS (Nat.le_of_ble_eq_true rfl) (Nat.le_of_ble_eq_true rfl) dL_answers_51 rfl (⟨rfl, by rw [z]; rfl⟩)
        · have s3 : disB d (Q9.2.2.2 q) = false := by rw [disB_c]; cases z : disB (Q9.2.2.2 q) d; rfl; exact absurd ((bit_le0 _ y6 _ hd).mpr z) c43
          have z : ansQ Q9 q d = true := by simp [ansQ, ansB, s1, s2, s3]
          refine lv_iconst (v := nI 1) hx hb dL_answers_46 (by decide) ?_
          refine lv_goto (tgt := 51) hx hb dL_answers_47 (by decide) ?_
          exact r_z hx hb hrt9 hlk hS (Nat.le_of_ble_eq_true rfl) (Nat.le_of_ble_eq_true rfl) dL_answers_51 rfl (⟨rfl, by rw [z]; rfl⟩)
