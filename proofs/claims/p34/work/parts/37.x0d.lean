theorem cat_rf (r : Option Nat) : (va_rf r).category = 1 := by cases r <;> rfl
set_option maxRecDepth 100000 in
theorem in_X3_putOut_RX3 : ∀ w ∈ wsX30, w ∈ wsX3_putOut := by decide +kernel
set_option maxHeartbeats 4000000 in
set_option maxRecDepth 100000 in
theorem c_X3_putOut (l : Launch) {D : va_G} {T : Nat → ClassId} {dE mi : Nat} {A : Nat → Prop} {H : Heap} {a ml arr cap zn j0 v : Nat} {x : Int32} {f : Nat → Nat} (ho : oc D H a 6 [.int x, .ref ml]) (hL : AL D T dE H ml arr cap zn f) (hAl : A ml) (hAr : 0 < cap → A arr) (har : a ≠ arr ∧ a ≠ ml) (hel : ∀ j, j < zn → ∃ vs, oc D H (f j) 4 vs) (hj0 : j0 < zn) (hv : f j0 = v) (hno : ∀ j, j < j0 → f j ≠ v) : vx_Met l yX3_putOut wsX3_putOut (rmL 4 0 0) (PcE D T dE mi A H [.ref a, .ref v]) (QV A (fun H1 => AL D T dE H1 ml arr cap (zn - 1) (nu f j0 (f (zn - 1))) ∧ H1.size = H.size ∧ ∀ q : Nat, q ≠ ml → q ≠ arr → H1[q]? = H[q]?)) (XX A (XN)) 0 0 A := by
  refine entry (cc := cX3_putOut) (maxL := 4) (ret := none) (by decide) rfl (Nat.le_of_ble_eq_true rfl) ?_
  intro p e s m args below meth c hx hb hrt9 hml hown hts hlk hnt hnm hev hS ls hl
  have hown : s.vm.findClass RX3 = some m.cls := hown
  have hK := hev.1
  have hl : lv_has ls 4 [(0, .ref a), (1, .ref v)] := hl
  have hnl := hL.2.2.1
  have hcap9 := hL.2.1
  refine lv_aload_n hx hb dX3_putOut_0 rfl (lv_at hl 0 rfl) ?_
  refine x_get (C := RX3) (TT := TX3) (N := 2) (ci := 6) (v := .ref ml) hx hb hts in_X3_putOut_RX3 hown hK (ho) rfl 1 (by decide) (hts (.fieldLink RX3 10 "Archeloft$Row" "members" "Ljava/util/ArrayList;") (by decide +kernel)) (fun _ h9 => h9) rfl dX3_putOut_1 ?_
  refine k_ip (k_V (As := []) (rest := []) ⟨hx, hb, hml, hown, hts⟩ hev hS (c_Jx4a65c_size_8abf5 l hL) (cwV 0 hts gX3_putOut_Jx4a65c_size_8abf5 rfl rfl rfl (by decide +kernel) ⟨Nat.le_of_ble_eq_true rfl, Nat.le_of_ble_eq_true rfl⟩) (x_recv hK ((hL.rec).choose_spec) rfl) rfl hl.1 (Nat.le_of_ble_eq_true rfl) dX3_putOut_4 (Nat.le_of_ble_eq_true rfl) (Nat.le_of_ble_eq_true rfl)) hS hnt hlk (fun _ _ h _ => h.elim) (Nat.le_of_ble_eq_true rfl) (Nat.le_of_ble_eq_true rfl) (fun rq1_ H1 locs1 hP hz1 hS => ?_)
  refine W.widen (k := 0) (n := 0) (Nat.le_refl _) (Nat.le_refl _) ?_
  obtain ⟨eH, er⟩ := hP
  have eH := eH.symm
  subst eH
  refine x_top (y := (nI zn)) (er) ?_
  refine lv_iconst (v := nI 1) hx hb dX3_putOut_7 (by decide) ?_
  refine y_isub hx hb (by omega) dX3_putOut_8 ?_
  refine lv_istore_n (lv' := [(2, .int (nI (zn - 1))), (0, .ref a), (1, .ref v)]) hx hb dX3_putOut_9 rfl hl (by decide) rfl (fun ls hl => ?_)
  refine lv_iconst (v := nI 0) hx hb dX3_putOut_10 (by decide) ?_
  refine lv_istore_n (lv' := [(3, .int (nI 0)), (2, .int (nI (zn - 1))), (0, .ref a), (1, .ref v)]) hx hb dX3_putOut_11 rfl hl (by decide) rfl (fun ls hl => ?_)
  have loop12 : ∀ (n : Nat) (i : Nat) (locs9 : List Loc), j0 - i < n → (i ≤ j0) → (va_S A s.heap H locs9) → ∀ (ls : Array Slot), lv_has ls 4 [(3, .int (nI i)), (2, .int (nI ((zn - 1)))), (0, .ref a), (1, .ref v)] → W p l e (rmL 4 0 0) s m args below meth c H locs9 (0) (0) (vx_MQ below (QV A (fun H1 => AL D T dE H1 ml arr cap (zn - 1) (nu f j0 (f (zn - 1))) ∧ H1.size = H.size ∧ ∀ q : Nat, q ≠ ml → q ≠ arr → H1[q]? = H[q]?)) (XX A (XN)) args s 0 0 A) (F0 m 12 ls []) := by
    intro n
    induction n with
    | zero => intro i locs9 hfuel; exact absurd hfuel (Nat.not_lt_zero _)
    | succ n ih12 =>
      intro i locs9 hfuel hi hS ls hl
      refine lv_iload_n hx hb dX3_putOut_12 rfl (lv_at hl 0 rfl) ?_
      refine lv_iload_n hx hb dX3_putOut_13 rfl (lv_at hl 1 rfl) ?_
      refine y_icmp_gt hx hb (by omega) (by omega) (tgt := 65) dX3_putOut_14 (by decide) (fun c14 => ?_) (fun c14 => ?_)
      · exact absurd c14 (by omega)
      · refine lv_aload_n hx hb dX3_putOut_17 rfl (lv_at hl 2 rfl) ?_
        refine x_get (C := RX3) (TT := TX3) (N := 2) (ci := 6) (v := .ref ml) hx hb hts in_X3_putOut_RX3 hown hK (ho) rfl 1 (by decide) (hts (.fieldLink RX3 10 "Archeloft$Row" "members" "Ljava/util/ArrayList;") (by decide +kernel)) (fun _ h9 => h9) rfl dX3_putOut_18 ?_
        refine lv_iload_n hx hb dX3_putOut_21 rfl (lv_at hl 0 rfl) ?_
        refine k_qp (k_V (As := [.int (nI i)]) (rest := []) ⟨hx, hb, hml, hown, hts⟩ hev hS (c_Jx4a65c_get_915e3 l hL (i := i) (by omega)) (cwV 1 hts gX3_putOut_Jx4a65c_get_915e3 rfl rfl rfl (by decide +kernel) ⟨Nat.le_of_ble_eq_true rfl, Nat.le_of_ble_eq_true rfl⟩) (x_recv hK ((hL.rec).choose_spec) rfl) rfl hl.1 (Nat.le_of_ble_eq_true rfl) dX3_putOut_22 (Nat.le_of_ble_eq_true rfl) (Nat.le_of_ble_eq_true rfl)) hS hnt hlk (fun _ _ h _ => h.elim) (Nat.le_of_ble_eq_true rfl) (Nat.le_of_ble_eq_true rfl) (fun rq2_ H2 locs2 hP hz2 hS => ?_)
        refine W.widen (k := 0) (n := 0) (Nat.le_refl _) (Nat.le_refl _) ?_
        obtain ⟨eH, er⟩ := hP
        have eH := eH.symm
        subst eH
        refine x_tov (y := .ref ((f i))) (by rw [er]; rfl) ?_
        refine lv_aload_n hx hb dX3_putOut_25 rfl (lv_at hl 3 rfl) ?_
        refine lv_acmp_ne (rx := (some (f i))) (ry := (some v)) (tgt := 59) hx hb dX3_putOut_26 (by decide) (fun c26 => ?_) (fun c26 => ?_)
        · have h9 : i ≠ j0 := fun z => c26 (by rw [z, hv])
          refine lv_iinc (v := (nI (i + 1))) (lv' := [(3, .int (nI (i + 1))), (2, .int (nI ((zn - 1)))), (0, .ref a), (1, .ref v)]) hx hb dX3_putOut_59 hl (k := 0) rfl (nI_inc _) (by decide) rfl (fun ls hl => ?_)
          refine lv_goto (tgt := 12) hx hb dX3_putOut_62 (by decide) ?_
          exact ih12 (i + 1) locs2 (by omega) (by omega) hS ls (lv_sub hl [0, 1, 2, 3] rfl)
        · have ei : i = j0 := by
            rcases Nat.lt_or_eq_of_le hi with z | z
            · exact absurd (Option.some.inj c26) (hno i z)
            · exact z
          have hncap : zn ≤ cap := hL.2.1
          refine lv_aload_n hx hb dX3_putOut_29 rfl (lv_at hl 2 rfl) ?_
          refine x_get (C := RX3) (TT := TX3) (N := 2) (ci := 6) (v := .ref ml) hx hb hts in_X3_putOut_RX3 hown hK (ho) rfl 1 (by decide) (hts (.fieldLink RX3 10 "Archeloft$Row" "members" "Ljava/util/ArrayList;") (by decide +kernel)) (fun _ h9 => h9) rfl dX3_putOut_30 ?_
          refine lv_iload_n hx hb dX3_putOut_33 rfl (lv_at hl 0 rfl) ?_
          refine lv_aload_n hx hb dX3_putOut_34 rfl (lv_at hl 2 rfl) ?_
          refine x_get (C := RX3) (TT := TX3) (N := 2) (ci := 6) (v := .ref ml) hx hb hts in_X3_putOut_RX3 hown hK (ho) rfl 1 (by decide) (hts (.fieldLink RX3 10 "Archeloft$Row" "members" "Ljava/util/ArrayList;") (by decide +kernel)) (fun _ h9 => h9) rfl dX3_putOut_35 ?_
          refine lv_iload_n hx hb dX3_putOut_38 rfl (lv_at hl 1 rfl) ?_
          refine k_qp (k_V (As := [.int (nI ((zn - 1)))]) (rest := [.int (nI i), .ref ml]) ⟨hx, hb, hml, hown, hts⟩ hev hS (c_Jx4a65c_get_915e3 l hL (i := (zn - 1)) (by omega)) (cwV 1 hts gX3_putOut_Jx4a65c_get_915e3 rfl rfl rfl (by decide +kernel) ⟨Nat.le_of_ble_eq_true rfl, Nat.le_of_ble_eq_true rfl⟩) (x_recv hK ((hL.rec).choose_spec) rfl) rfl hl.1 (Nat.le_of_ble_eq_true rfl) dX3_putOut_39 (Nat.le_of_ble_eq_true rfl) (Nat.le_of_ble_eq_true rfl)) hS hnt hlk (fun _ _ h _ => h.elim) (Nat.le_of_ble_eq_true rfl) (Nat.le_of_ble_eq_true rfl) (fun rq3_ H3 locs3 hP hz3 hS => ?_)
          refine W.widen (k := 0) (n := 0) (Nat.le_refl _) (Nat.le_refl _) ?_
          obtain ⟨eH, er⟩ := hP
          have eH := eH.symm
          subst eH
          refine x_tov (y := .ref ((f (zn - 1)))) (by rw [er]; rfl) ?_
          refine va_castE hx hb hown (hts (.classLink RX3 28 "Archeloft$Entity") (by decide +kernel)) (by obtain ⟨vs, hvs⟩ := hel (zn - 1) (by omega); exact x_recv hK hvs rfl) dX3_putOut_42 ?_
          refine k_qp (k_V (As := [.int (nI i), .ref ((f (zn - 1)))]) (rest := []) ⟨hx, hb, hml, hown, hts⟩ hev hS (c_Jx4a65c_set_bcc79 l hL (i := i) (by omega) hAr (ci := 4) (rr := (RX1, TX1, 6)) rfl (by decide +kernel) (v := f (zn - 1)) (hel (zn - 1) (by omega)).choose_spec) (cwV 2 hts gX3_putOut_Jx4a65c_set_bcc79 rfl rfl rfl (by decide +kernel) ⟨Nat.le_of_ble_eq_true rfl, Nat.le_of_ble_eq_true rfl⟩) (x_recv hK ((hL.rec).choose_spec) rfl) rfl hl.1 (Nat.le_of_ble_eq_true rfl) dX3_putOut_45 (Nat.le_of_ble_eq_true rfl) (Nat.le_of_ble_eq_true rfl)) hS hnt hlk (fun _ _ h _ => h.elim) (Nat.le_of_ble_eq_true rfl) (Nat.le_of_ble_eq_true rfl) (fun rq4_ H4 locs4 hP hz4 hS => ?_)
          refine W.widen (k := 0) (n := 0) (Nat.le_refl _) (Nat.le_refl _) ?_
          obtain ⟨-, hL1, ez1, eq1⟩ := hP
          have ho := ho.kept (eq1 _ har.1)
          have hL2 : AL D T dE H4 ml arr cap (zn - 1 + 1) (nu f i (f (zn - 1))) := by rw [Nat.sub_add_cancel (by omega)]; exact hL1
          refine lv_pop hx hb dX3_putOut_48 (cat_rf _) ?_
          refine lv_aload_n hx hb dX3_putOut_49 rfl (lv_at hl 2 rfl) ?_
          refine x_get (C := RX3) (TT := TX3) (N := 2) (ci := 6) (v := .ref ml) hx hb hts in_X3_putOut_RX3 hown hK (ho) rfl 1 (by decide) (hts (.fieldLink RX3 10 "Archeloft$Row" "members" "Ljava/util/ArrayList;") (by decide +kernel)) (fun _ h9 => h9) rfl dX3_putOut_50 ?_
          refine lv_iload_n hx hb dX3_putOut_53 rfl (lv_at hl 1 rfl) ?_
          refine k_qp (k_V (As := [.int (nI ((zn - 1)))]) (rest := []) ⟨hx, hb, hml, hown, hts⟩ hev hS (c_Jx4a65c_remove_915e3 l hL2 hAl hAr) (cwV 1 hts gX3_putOut_Jx4a65c_remove_915e3 rfl rfl rfl (by decide +kernel) ⟨Nat.le_of_ble_eq_true rfl, Nat.le_of_ble_eq_true rfl⟩) (x_recv hK ((hL2.rec).choose_spec) rfl) rfl hl.1 (Nat.le_of_ble_eq_true rfl) dX3_putOut_54 (Nat.le_of_ble_eq_true rfl) (Nat.le_of_ble_eq_true rfl)) hS hnt hlk (fun _ _ h _ => h.elim) (Nat.le_of_ble_eq_true rfl) (Nat.le_of_ble_eq_true rfl) (fun rq5_ H5 locs5 hP hz5 hS => ?_)
          refine W.widen (k := 0) (n := 0) (Nat.le_refl _) (Nat.le_refl _) ?_
          obtain ⟨-, hL3, ez3, eq3⟩ := hP
          refine lv_pop hx hb dX3_putOut_57 (cat_rf _) ?_
          exact r_v hx hb hrt9 hlk hS (Nat.le_of_ble_eq_true rfl) (Nat.le_of_ble_eq_true rfl) dX3_putOut_58 (⟨by rw [← ei]; exact hL3, by rw [ez3, ez1], fun q9 h9 h8 => (eq3 q9 h9 h8).trans (eq1 q9 h8)⟩)
  exact loop12 ((j0 - 0) + 1) 0 locs1 (Nat.lt_succ_self _) (Nat.zero_le _) hS ls (lv_sub hl [0, 1, 2, 3] rfl)
