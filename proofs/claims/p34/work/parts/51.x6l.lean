set_option maxRecDepth 100000 in
theorem in_X6_rowOf_RX3 : ∀ w ∈ wsX30, w ∈ wsX6_rowOf := by decide +kernel
set_option maxRecDepth 100000 in
theorem in_X6_rowOf_RX6 : ∀ w ∈ wsX60, w ∈ wsX6_rowOf := by decide +kernel
set_option maxHeartbeats 4000000 in
set_option maxRecDepth 100000 in
theorem c_rowOf_found (l : Launch) {D : va_G} {T : Nat → ClassId} {dE mi : Nat} (hst : l.stackTraces = false) {A : Nat → Prop} {H : Heap} {b0 : Nat} {tg : Nat → Nat} {wo : Option Nat} {tk : Int32} (hX : PX D T b0 H wo tk) {R : mR} {y : mLy} (hR : RepR D T dE b0 tg H R y) (hs64 : ∀ r, r < rN R → rS R r < 64) {d : Nat} (hd : d < 64) (hrd : row R d < rN R) : vx_Met l yX6_rowOf wsX6_rowOf (rmL 8 0 0) (PcE D T dE mi A H [.ref b0, .int (nI d)]) (QQ A (fun r H1 => H1 = H ∧ r = some (yW y (row R d)))) (XX A (XN)) 0 0 A := by
  refine entry (cc := cX6_rowOf) (maxL := 4) (ret := (some (.object "Archeloft$Row"))) (by decide) rfl (Nat.le_of_ble_eq_true rfl) ?_
  intro p e s m args below meth c hx hb hrt9 hml hown hts hlk hnt hnm hev hS ls hl
  have hown : s.vm.findClass RX6 = some m.cls := hown
  have hK := hev.1
  have hl : lv_has ls 4 [(0, .ref b0), (1, .int (nI d))] := hl
  have hcap9 := hR.1.1.2.1
  have hcap8 := hR.1.1.2.2.1
  refine lv_iconst (v := nI 0) hx hb dX6_rowOf_0 (by decide) ?_
  refine lv_istore_n (lv' := [(2, .int (nI 0)), (0, .ref b0), (1, .int (nI d))]) hx hb dX6_rowOf_1 rfl hl (by decide) rfl (fun ls hl => ?_)
  have loop2 : ∀ (n : Nat) (i : Nat) (locs9 : List Loc), rN R - i < n → (i ≤ rN R) → (∀ j, j < i → rS R j ≠ d) → (va_S A s.heap H locs9) → ∀ (ls : Array Slot), lv_has ls 4 [(2, .int (nI i)), (0, .ref b0), (1, .int (nI d))] → W p l e (rmL 8 0 0) s m args below meth c H locs9 (0) (0) (vx_MQ below (QQ A (fun r H1 => H1 = H ∧ r = some (yW y (row R d)))) (XX A (XN)) args s 0 0 A) (F0 m 2 ls []) := by
    intro n
    induction n with
    | zero => intro i locs9 hfuel; exact absurd hfuel (Nat.not_lt_zero _)
    | succ n ih2 =>
      intro i locs9 hfuel hi hno hS ls hl
      refine lv_iload_n hx hb dX6_rowOf_2 rfl (lv_at hl 0 rfl) ?_
      refine lv_aload_n hx hb dX6_rowOf_3 rfl (lv_at hl 1 rfl) ?_
      refine x_get (C := RX6) (TT := TX6) (N := 6) (ci := 9) (v := .ref ((b0 + 2))) hx hb hts in_X6_rowOf_RX6 hown hK (hX.1) rfl 1 (by decide) (hts (.fieldLink RX6 18 "Archeloft" "rowList" "Ljava/util/ArrayList;") (by decide +kernel)) (fun _ h9 => h9) rfl dX6_rowOf_4 ?_
      refine k_ip (k_V (As := []) (rest := [.int (nI i)]) ⟨hx, hb, hml, hown, hts⟩ hev hS (c_Jx4a65c_size_8abf5 l hR.1.1) (cwV 0 hts gX6_rowOf_Jx4a65c_size_8abf5 rfl rfl rfl (by decide +kernel) ⟨Nat.le_of_ble_eq_true rfl, Nat.le_of_ble_eq_true rfl⟩) (x_recv hK ((hR.1.1.rec).choose_spec) rfl) rfl hl.1 (Nat.le_of_ble_eq_true rfl) dX6_rowOf_7 (Nat.le_of_ble_eq_true rfl) (Nat.le_of_ble_eq_true rfl)) hS hnt hlk (fun _ _ h _ => h.elim) (Nat.le_of_ble_eq_true rfl) (Nat.le_of_ble_eq_true rfl) (fun rq1_ H1 locs1 hP hz1 hS => ?_)
      refine W.widen (k := 0) (n := 0) (Nat.le_refl _) (Nat.le_refl _) ?_
      obtain ⟨eH, er⟩ := hP
      have eH := eH.symm
      subst eH
      refine x_top (y := (nI ((rN R)))) (er) ?_
      refine y_icmp_ge hx hb (by omega) (by omega) (tgt := 41) dX6_rowOf_10 (by decide) (fun c10 => ?_) (fun c10 => ?_)
      · exact absurd hrd (by rw [row_is (i := rN R) (Nat.le_refl _) (fun j hj => hno j (by omega)) (Or.inl rfl)]; exact Nat.lt_irrefl _)
      · have hi2 : i < rN R := by omega
        obtain ⟨hro, hrt, hrl⟩ := hR.2 i hi2
        have hsi := hs64 i hi2
        refine lv_aload_n hx hb dX6_rowOf_13 rfl (lv_at hl 1 rfl) ?_
        refine x_get (C := RX6) (TT := TX6) (N := 6) (ci := 9) (v := .ref ((b0 + 2))) hx hb hts in_X6_rowOf_RX6 hown hK (hX.1) rfl 1 (by decide) (hts (.fieldLink RX6 18 "Archeloft" "rowList" "Ljava/util/ArrayList;") (by decide +kernel)) (fun _ h9 => h9) rfl dX6_rowOf_14 ?_
        refine lv_iload_n hx hb dX6_rowOf_17 rfl (lv_at hl 0 rfl) ?_
        refine k_qp (k_V (As := [.int (nI i)]) (rest := []) ⟨hx, hb, hml, hown, hts⟩ hev hS (c_Jx4a65c_get_915e3 l hR.1.1 (i := i) (hi2)) (cwV 1 hts gX6_rowOf_Jx4a65c_get_915e3 rfl rfl rfl (by decide +kernel) ⟨Nat.le_of_ble_eq_true rfl, Nat.le_of_ble_eq_true rfl⟩) (x_recv hK ((hR.1.1.rec).choose_spec) rfl) rfl hl.1 (Nat.le_of_ble_eq_true rfl) dX6_rowOf_18 (Nat.le_of_ble_eq_true rfl) (Nat.le_of_ble_eq_true rfl)) hS hnt hlk (fun _ _ h _ => h.elim) (Nat.le_of_ble_eq_true rfl) (Nat.le_of_ble_eq_true rfl) (fun rq2_ H2 locs2 hP hz2 hS => ?_)
        refine W.widen (k := 0) (n := 0) (Nat.le_refl _) (Nat.le_refl _) ?_
        obtain ⟨eH, er⟩ := hP
        have eH := eH.symm
        subst eH
        refine x_tov (y := .ref ((yW y i))) (by rw [er]; rfl) ?_
        refine va_castE hx hb hown (hts (.classLink RX6 55 "Archeloft$Row") (by decide +kernel)) (x_recv hK hro rfl) dX6_rowOf_21 ?_
        refine lv_astore_n (lv' := [(3, .ref ((yW y i))), (2, .int (nI i)), (0, .ref b0), (1, .int (nI d))]) hx hb dX6_rowOf_24 rfl hl (by decide) rfl (fun ls hl => ?_)
        refine lv_aload_n hx hb dX6_rowOf_25 rfl (lv_at hl 0 rfl) ?_
        refine x_getN (C := RX3) (TT := TX3) (N := 2) (ci := 6) (v := .int (nI ((rS R i)))) hx hb hts in_X6_rowOf_RX3 hown hK (hro) rfl 0 (by decide) (hev.2.2.2.2.1.2 ("Archeloft", 142, "Archeloft$Row", "kindSet", "I") (by decide +kernel)) (fun _ h9 => h9) rfl dX6_rowOf_26 ?_
        refine lv_iload_n hx hb dX6_rowOf_29 rfl (lv_at hl 3 rfl) ?_
        refine y_icmp_ne hx hb (by omega) (by omega) (tgt := 35) dX6_rowOf_30 (by decide) (fun c30 => ?_) (fun c30 => ?_)
        · refine lv_iinc (v := (nI (i + 1))) (lv' := [(2, .int (nI (i + 1))), (3, .ref ((yW y i))), (0, .ref b0), (1, .int (nI d))]) hx hb dX6_rowOf_35 hl (k := 1) rfl (nI_inc _) (by decide) rfl (fun ls hl => ?_)
          refine lv_goto (tgt := 2) hx hb dX6_rowOf_38 (by decide) ?_
          exact ih2 (i + 1) locs2 (by omega) (by omega) (fun j hj => by rcases Nat.lt_succ_iff_lt_or_eq.mp hj with z | z; exact hno j z; rw [z]; exact c30) hS ls (lv_sub hl [0, 2, 3] rfl)
        · have hrow : row R d = i := row_is (by omega) hno (Or.inr c30)
          refine lv_aload_n hx hb dX6_rowOf_33 rfl (lv_at hl 0 rfl) ?_
          exact r_q (r := some (yW y i)) hx hb hrt9 (Or.inl ⟨_, rfl⟩) hlk hS (Nat.le_of_ble_eq_true rfl) (Nat.le_of_ble_eq_true rfl) dX6_rowOf_34 (⟨rfl, by rw [hrow]⟩)
  exact loop2 ((rN R - 0) + 1) 0 [] (Nat.lt_succ_self _) (Nat.zero_le _) (fun j hj => absurd hj (Nat.not_lt_zero j)) hS ls (lv_sub hl [0, 1, 2] rfl)
def dRC (R : mR) (d : Nat) : Nat := if row R d < rN R then 0 else 3
def dRS (R : mR) (d : Nat) : Nat := if row R d < rN R then 0 else 78
theorem dRC_le {R : mR} {d : Nat} : dRC R d ≤ 3 := by unfold dRC; split <;> omega
theorem dRS_le {R : mR} {d : Nat} : dRS R d ≤ 78 := by unfold dRS; split <;> omega
set_option maxHeartbeats 4000000 in
set_option maxRecDepth 100000 in
theorem c_rowOf_new (l : Launch) {D : va_G} {T : Nat → ClassId} {dE mi : Nat} (hst : l.stackTraces = false) {A : Nat → Prop} {H : Heap} {b0 : Nat} {tg : Nat → Nat} {wo : Option Nat} {tk : Int32} (hX : PX D T b0 H wo tk) {R : mR} {y : mLy} (hR : RepR D T dE b0 tg H R y) (hs64 : ∀ r, r < rN R → rS R r < 64) {d : Nat} (hd : d < 64) (hT : TG A b0 H tg) (hrd : row R d = rN R) (hn64 : rN R < 64) : vx_Met l yX6_rowOf wsX6_rowOf (rmL 8 3 78) (PcE D T dE mi A H [.ref b0, .int (nI d)]) (QQ A (fun r H1 => ∃ (tg1 : Nat → Nat) (y1 : mLy), TG A b0 H1 tg1 ∧ TX tg H tg1 ∧ RepR D T dE b0 tg1 H1 (rowEns R d) y1 ∧ r = some (yW y1 (row R d)) ∧ FR tg (fun t => t = 1000 ∨ t = 1001) H H1)) (XX A (XN)) 3 78 A := by
  refine entry (cc := cX6_rowOf) (maxL := 4) (ret := (some (.object "Archeloft$Row"))) (by decide) rfl (Nat.le_of_ble_eq_true rfl) ?_
  intro p e s m args below meth c hx hb hrt9 hml hown hts hlk hnt hnm hev hS ls hl
  have hown : s.vm.findClass RX6 = some m.cls := hown
  have hK := hev.1
  have hS0 := hS.1
  have hl : lv_has ls 4 [(0, .ref b0), (1, .int (nI d))] := hl
  have hcap9 := hR.1.1.2.1
  have hcap8 := hR.1.1.2.2.1
  have hdc := @dC_le (yC y) (rN R)
  have hds := dS_le hR.1.2.1 hR.1.1.2.1 hn64
  refine lv_iconst (v := nI 0) hx hb dX6_rowOf_0 (by decide) ?_
  refine lv_istore_n (lv' := [(2, .int (nI 0)), (0, .ref b0), (1, .int (nI d))]) hx hb dX6_rowOf_1 rfl hl (by decide) rfl (fun ls hl => ?_)
  have loop2 : ∀ (n : Nat) (i : Nat) (locs9 : List Loc), rN R - i < n → (i ≤ rN R) → (∀ j, j < i → rS R j ≠ d) → (va_S A s.heap H locs9) → ∀ (ls : Array Slot), lv_has ls 4 [(2, .int (nI i)), (0, .ref b0), (1, .int (nI d))] → W p l e (rmL 8 3 78) s m args below meth c H locs9 (0) (0) (vx_MQ below (QQ A (fun r H1 => ∃ (tg1 : Nat → Nat) (y1 : mLy), TG A b0 H1 tg1 ∧ TX tg H tg1 ∧ RepR D T dE b0 tg1 H1 (rowEns R d) y1 ∧ r = some (yW y1 (row R d)) ∧ FR tg (fun t => t = 1000 ∨ t = 1001) H H1)) (XX A (XN)) args s 3 78 A) (F0 m 2 ls []) := by
    intro n
    induction n with
    | zero => intro i locs9 hfuel; exact absurd hfuel (Nat.not_lt_zero _)
    | succ n ih2 =>
      intro i locs9 hfuel hi hno hS ls hl
      refine lv_iload_n hx hb dX6_rowOf_2 rfl (lv_at hl 0 rfl) ?_
      refine lv_aload_n hx hb dX6_rowOf_3 rfl (lv_at hl 1 rfl) ?_
      refine x_get (C := RX6) (TT := TX6) (N := 6) (ci := 9) (v := .ref ((b0 + 2))) hx hb hts in_X6_rowOf_RX6 hown hK (hX.1) rfl 1 (by decide) (hts (.fieldLink RX6 18 "Archeloft" "rowList" "Ljava/util/ArrayList;") (by decide +kernel)) (fun _ h9 => h9) rfl dX6_rowOf_4 ?_
      refine k_ip (k_V (As := []) (rest := [.int (nI i)]) ⟨hx, hb, hml, hown, hts⟩ hev hS (c_Jx4a65c_size_8abf5 l hR.1.1) (cwV 0 hts gX6_rowOf_Jx4a65c_size_8abf5 rfl rfl rfl (by decide +kernel) ⟨Nat.le_of_ble_eq_true rfl, Nat.le_of_ble_eq_true rfl⟩) (x_recv hK ((hR.1.1.rec).choose_spec) rfl) rfl hl.1 (Nat.le_of_ble_eq_true rfl) dX6_rowOf_7 (Nat.le_of_ble_eq_true rfl) (Nat.le_of_ble_eq_true rfl)) hS hnt hlk (fun _ _ h _ => h.elim) (Nat.le_of_ble_eq_true rfl) (Nat.le_of_ble_eq_true rfl) (fun rq1_ H1 locs1 hP hz1 hS => ?_)
      refine W.widen (k := 0) (n := 0) (Nat.le_refl _) (Nat.le_refl _) ?_
      obtain ⟨eH, er⟩ := hP
      have eH := eH.symm
      subst eH
      refine x_top (y := (nI ((rN R)))) (er) ?_
      refine y_icmp_ge hx hb (by omega) (by omega) (tgt := 41) dX6_rowOf_10 (by decide) (fun c10 => ?_) (fun c10 => ?_)
      · refine x_new (C := RX3) (TT := TX3) (N := 2) (ci := 6) (fs := [.int 0, .null]) hx hb hts in_X6_rowOf_RX3 tyX3 tyX3_ok hown (hts (.classLink RX6 55 RX3) (by decide +kernel)) (hts (.instantiable RX3 2) (by decide +kernel)) (hts (.initialized RX3) (by decide +kernel)) hK hS rfl (by decide) (Nat.le_of_ble_eq_true rfl) (Nat.le_of_ble_eq_true rfl) dX6_rowOf_41 (fun H2 ho2 hz2 hq2 hS => ?_)
        have k1 : KP H H2 := ⟨by omega, hq2⟩
        refine lv_dup hx hb dX6_rowOf_44 rfl ?_
        refine lv_iload_n hx hb dX6_rowOf_45 rfl (lv_at hl 2 rfl) ?_
        refine k_vp (k_I (As := [.int (nI d)]) (rest := [.ref H.size]) ⟨hx, hb, hml, hown, hts⟩ hev hS (c_X3_init l ho2 (hT.2.1 _ (Nat.le_refl _)) (fun q9 h9 => hT.2.1 q9 (by omega)) (nI d)) (cwI 1 hts gX6_rowOf_X3_init rfl rfl rfl (hts (.initialized RX3) (by decide +kernel)) (hts (.methodLink RX6 255 yX3_init) (by decide +kernel)) (hts (.instanceMethod yX3_init) (by decide +kernel)) rfl (by decide +kernel) ⟨Nat.le_of_ble_eq_true rfl, Nat.le_of_ble_eq_true rfl⟩) rfl hl.1 (Nat.le_of_ble_eq_true rfl) dX6_rowOf_46 (Nat.le_of_ble_eq_true rfl) (Nat.le_of_ble_eq_true rfl)) hS hnt hlk (fun _ _ h _ => h.elim) (Nat.le_of_ble_eq_true rfl) (Nat.le_of_ble_eq_true rfl) (fun H3 locs3 hP hz3 hS => ?_)
        obtain ⟨ho9, hl9, hz9, hq9⟩ := hP
        have k2 : KP H H3 := ⟨by omega, fun q9 h9 => (hq9 q9 (by omega) (by omega)).trans (hq2 q9 h9)⟩
        have hX2 := hX.kp k2
        have hR2 := hR.kp k2
        have ho8 : oc D H3 H.size 6 [.int (nI d), .ref (H.size + 1)] := by rw [← hz2]; exact ho9
        have hl8 : ∀ f, AL D T dE H3 (H.size + 1) dE 0 0 f := by rw [← hz2]; exact hl9
        have hz8 : H3.size = H.size + 2 := by rw [hz9, hz2]
        refine lv_astore_n (lv' := [(2, .ref H.size), (0, .ref b0), (1, .int (nI d))]) hx hb dX6_rowOf_49 rfl hl (by decide) rfl (fun ls hl => ?_)
        refine lv_aload_n hx hb dX6_rowOf_50 rfl (lv_at hl 1 rfl) ?_
        refine x_get (C := RX6) (TT := TX6) (N := 6) (ci := 9) (v := .ref ((b0 + 2))) hx hb hts in_X6_rowOf_RX6 hown hK (hX2.1) rfl 1 (by decide) (hts (.fieldLink RX6 18 "Archeloft" "rowList" "Ljava/util/ArrayList;") (by decide +kernel)) (fun _ h9 => h9) rfl dX6_rowOf_51 ?_
        refine lv_aload_n hx hb dX6_rowOf_54 rfl (lv_at hl 0 rfl) ?_
        refine k_ip (k_V (As := [.ref H.size]) (rest := []) ⟨hx, hb, hml, hown, hts⟩ hev hS (c_addL l hR2.1.1 hR.1.2.1.lt (hR.1.aa hT (by decide)) (hR.1.aA hT) (fun q9 h9 => hT.2.1 q9 (by omega)) (ci := 6) (rr := (RX3, TX3, 2)) (fun x hx2 => ⟨fun z => absurd (show (1002 : Nat) = 1000 by rw [← (hR.2 x hx2).2.1, ← hR.1.2.2.1, z]) (by decide), _, (hR2.2 x hx2).1⟩) rfl (by decide +kernel) ho8 (fun z => absurd (hT.lt hR.1.2.2.1 (by decide)) (by omega))) (cwV 1 hts gX6_rowOf_Jx4a65c_add_9ea2d rfl rfl rfl (by decide +kernel) ⟨Nat.le_of_ble_eq_true rfl, Nat.le_of_ble_eq_true rfl⟩) (x_recv hK ((hR2.1.1.rec).choose_spec) rfl) rfl hl.1 (Nat.le_of_ble_eq_true rfl) dX6_rowOf_55 (by show _ ≤ (3 : Nat); omega) (by show _ ≤ (78 : Nat); omega)) hS hnt hlk (fun _ _ h _ => h.elim) (by show _ ≤ (3 : Nat); omega) (by show _ ≤ (78 : Nat); omega) (fun rq4_ H4 locs4 hP hz4 hS => ?_)
        obtain ⟨-, hl7, hz7, hq7⟩ := hP
        obtain ⟨d1, d2, d3⟩ := hev.dE hS
        have hd0 : tg dE = 0 := by
          by_cases z : tg dE = 0
          · exact z
          · exact absurd (hT.1 _ z).1 d3
        refine lv_pop hx hb dX6_rowOf_58 rfl ?_
        refine lv_aload_n hx hb dX6_rowOf_59 rfl (lv_at hl 0 rfl) ?_
        exact r_q (r := some H.size) hx hb hrt9 (Or.inl ⟨_, rfl⟩) hlk hS (by omega) (by omega) dX6_rowOf_60 (by
              obtain ⟨tg1, y1, g1, g2, g3, g4, g5⟩ := RepR.nw hT hR hn64 hd0 (Nat.lt_of_lt_of_le d2 hS0) ho8 hl8 hz8 k2.2 hl7 hz7 hq7 hrd
              exact ⟨tg1, y1, g1, g2, g3, by rw [hrd, g4], g5⟩)
      · have hi2 : i < rN R := by omega
        obtain ⟨hro, hrt, hrl⟩ := hR.2 i hi2
        have hsi := hs64 i hi2
        refine lv_aload_n hx hb dX6_rowOf_13 rfl (lv_at hl 1 rfl) ?_
        refine x_get (C := RX6) (TT := TX6) (N := 6) (ci := 9) (v := .ref ((b0 + 2))) hx hb hts in_X6_rowOf_RX6 hown hK (hX.1) rfl 1 (by decide) (hts (.fieldLink RX6 18 "Archeloft" "rowList" "Ljava/util/ArrayList;") (by decide +kernel)) (fun _ h9 => h9) rfl dX6_rowOf_14 ?_
        refine lv_iload_n hx hb dX6_rowOf_17 rfl (lv_at hl 0 rfl) ?_
        refine k_qp (k_V (As := [.int (nI i)]) (rest := []) ⟨hx, hb, hml, hown, hts⟩ hev hS (c_Jx4a65c_get_915e3 l hR.1.1 (i := i) (hi2)) (cwV 1 hts gX6_rowOf_Jx4a65c_get_915e3 rfl rfl rfl (by decide +kernel) ⟨Nat.le_of_ble_eq_true rfl, Nat.le_of_ble_eq_true rfl⟩) (x_recv hK ((hR.1.1.rec).choose_spec) rfl) rfl hl.1 (Nat.le_of_ble_eq_true rfl) dX6_rowOf_18 (Nat.le_of_ble_eq_true rfl) (Nat.le_of_ble_eq_true rfl)) hS hnt hlk (fun _ _ h _ => h.elim) (Nat.le_of_ble_eq_true rfl) (Nat.le_of_ble_eq_true rfl) (fun rq5_ H5 locs5 hP hz5 hS => ?_)
        refine W.widen (k := 0) (n := 0) (Nat.le_refl _) (Nat.le_refl _) ?_
        obtain ⟨eH, er⟩ := hP
        have eH := eH.symm
        subst eH
        refine x_tov (y := .ref ((yW y i))) (by rw [er]; rfl) ?_
        refine va_castE hx hb hown (hts (.classLink RX6 55 "Archeloft$Row") (by decide +kernel)) (x_recv hK hro rfl) dX6_rowOf_21 ?_
        refine lv_astore_n (lv' := [(3, .ref ((yW y i))), (2, .int (nI i)), (0, .ref b0), (1, .int (nI d))]) hx hb dX6_rowOf_24 rfl hl (by decide) rfl (fun ls hl => ?_)
        refine lv_aload_n hx hb dX6_rowOf_25 rfl (lv_at hl 0 rfl) ?_
        refine x_getN (C := RX3) (TT := TX3) (N := 2) (ci := 6) (v := .int (nI ((rS R i)))) hx hb hts in_X6_rowOf_RX3 hown hK (hro) rfl 0 (by decide) (hev.2.2.2.2.1.2 ("Archeloft", 142, "Archeloft$Row", "kindSet", "I") (by decide +kernel)) (fun _ h9 => h9) rfl dX6_rowOf_26 ?_
        refine lv_iload_n hx hb dX6_rowOf_29 rfl (lv_at hl 3 rfl) ?_
        refine y_icmp_ne hx hb (by omega) (by omega) (tgt := 35) dX6_rowOf_30 (by decide) (fun c30 => ?_) (fun c30 => ?_)
        · refine lv_iinc (v := (nI (i + 1))) (lv' := [(2, .int (nI (i + 1))), (3, .ref ((yW y i))), (0, .ref b0), (1, .int (nI d))]) hx hb dX6_rowOf_35 hl (k := 1) rfl (nI_inc _) (by decide) rfl (fun ls hl => ?_)
          refine lv_goto (tgt := 2) hx hb dX6_rowOf_38 (by decide) ?_
          exact ih2 (i + 1) locs5 (by omega) (by omega) (fun j hj => by rcases Nat.lt_succ_iff_lt_or_eq.mp hj with z | z; exact hno j z; rw [z]; exact c30) hS ls (lv_sub hl [0, 2, 3] rfl)
        · exact absurd (row_is (by omega) hno (Or.inr c30)) (by omega)
  exact loop2 ((rN R - 0) + 1) 0 [] (Nat.lt_succ_self _) (Nat.zero_le _) (fun j hj => absurd hj (Nat.not_lt_zero j)) hS ls (lv_sub hl [0, 1, 2] rfl)
theorem c_rowOf (l : Launch) {D : va_G} {T : Nat → ClassId} {dE mi : Nat} (hst : l.stackTraces = false) {A : Nat → Prop} {H : Heap} {b0 : Nat} {tg : Nat → Nat} {wo : Option Nat} {tk : Int32} (hX : PX D T b0 H wo tk) {R : mR} {y : mLy} (hR : RepR D T dE b0 tg H R y) (hs64 : ∀ r, r < rN R → rS R r < 64) {d : Nat} (hd : d < 64) (hT : TG A b0 H tg) (hn64 : row R d = rN R → rN R < 64) :
    vx_Met l yX6_rowOf wsX6_rowOf (rmL 8 (dRC R d) (dRS R d)) (PcE D T dE mi A H [.ref b0, .int (nI d)]) (QQ A (fun r H1 => ∃ (tg1 : Nat → Nat) (y1 : mLy), TG A b0 H1 tg1 ∧ TX tg H tg1 ∧ RepR D T dE b0 tg1 H1 (rowEns R d) y1 ∧ r = some (yW y1 (row R d)) ∧ FR tg (fun t => t = 1000 ∨ t = 1001) H H1)) (XX A XN) (dRC R d) (dRS R d) A := by
  have hle := row_le R d
  by_cases c : row R d < rN R
  · have e1 : dRC R d = 0 := if_pos c
    have e2 : dRS R d = 0 := if_pos c
    rw [e1, e2]
    have e3 : rowEns R d = R := if_pos c
    exact vq_q (c_rowOf_found l hst hX hR hs64 hd c) (fun r H1 h => ⟨tg, y, by rw [h.1]; exact hT, TX.rf, by rw [h.1, e3]; exact hR, h.2, by rw [h.1]; exact FR.rf⟩) (fun _ _ h => h)
  · have e1 : dRC R d = 3 := if_neg c
    have e2 : dRS R d = 78 := if_neg c
    rw [e1, e2]
    exact c_rowOf_new l hst hX hR hs64 hd hT (by omega) (hn64 (by omega))
