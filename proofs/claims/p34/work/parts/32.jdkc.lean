theorem capN0 {cap : Nat} (h : cap = 0) : capN cap = 10 := if_pos h
theorem capNs {cap : Nat} (h : 0 < cap) : capN cap = cap + max (cap + 1 - cap) (cap / 2) := by
  rw [show cap + 1 - cap = 1 by omega]; exact if_neg (by omega)
theorem capN_lt {cap : Nat} (h : cap < 1000) : capN cap < 2000 := by
  unfold capN
  split
  · omega
  · omega
theorem AL.up {D : va_G} {T : Nat → ClassId} {dE : Nat} {H : Heap} {a arr cap n v : Nat} {f : Nat → Nat} {mo : Int32} {fe : Nat → Option Nat} (hne : arr ≠ a) (hn : n < cap) (hc : cap < 100000) (ho : oc D H a 2 [.int mo, .ref arr, .int (nI (n + 1))]) (hg : rc (T 3) H arr cap (va_up fe n (some v))) (hf : ∀ i, i < n → fe i = some (f i)) : AL D T dE H a arr cap (n + 1) (nu f n v) := by
  refine ⟨hne, hn, hc, fun z => by omega, mo, _, ho, hg.ra, fun i hi => ?_⟩
  by_cases c : i = n
  · rw [c, nu_s]; exact if_pos rfl
  · rw [nu_n c]; exact (if_neg c).trans (hf i (by omega))
set_option maxRecDepth 100000 in
theorem in_Jx4a65c_grow_92f84_RJx4a65c : ∀ w ∈ wsJx4a65c0, w ∈ wsJx4a65c_grow_92f84 := by decide +kernel
set_option maxHeartbeats 4000000 in
set_option maxRecDepth 100000 in
theorem c_Jx4a65c_grow_92f84 (l : Launch) {D : va_G} {T : Nat → ClassId} {dE mi : Nat} {A : Nat → Prop} {H : Heap} {a arr cap ci : Nat} {f : Nat → Nat} {rr : vw_C} (hL : AL D T dE H a arr cap cap f) (hcp : cap < 1000) (hAa : A a) (hAn : ∀ q : Nat, H.size ≤ q → A q) (hel : ∀ x, x < cap → f x ≠ a ∧ ∃ vs, oc D H (f x) ci vs) (hci : vwCl[ci]? = some rr) (hca : (rr.1, "java/lang/Object") ∈ evCast) : vx_Met l yJx4a65c_grow_92f84 wsJx4a65c_grow_92f84 (rmL 4 1 (capN cap)) (PcE D T dE mi A H [.ref a, .int (nI (cap + 1))]) (QQ A (fun r H1 => r = some H.size ∧ (∃ (mo1 : Int32) (fe2 : Nat → Option Nat), oc D H1 a 2 [.int mo1, .ref H.size, .int (nI cap)] ∧ rc (T 3) H1 H.size (capN cap) fe2 ∧ ∀ i, i < cap → fe2 i = some (f i)) ∧ H1.size = H.size + 1 ∧ ∀ q : Nat, q < H.size → q ≠ a → H1[q]? = H[q]?)) (XX A (XN)) 1 (capN cap) A := by
  refine entry (cc := cJx4a65c_grow_92f84) (maxL := 4) (ret := (some (.array (.object "java/lang/Object")))) (by decide) rfl (Nat.le_of_ble_eq_true rfl) ?_
  intro p e s m args below meth c hx hb hrt9 hml hown hts hlk hnt hnm hev hS ls hl
  have hown : s.vm.findClass RJx4a65c = some m.cls := hown
  have hK := hev.1
  have hl : lv_has ls 4 [(0, .ref a), (1, .int (nI (cap + 1)))] := hl
  obtain ⟨hne, hnc, hcap, hc0, mo, fe, ho, hg, hfe⟩ := id hL
  have hcN := capN_lt hcp
  refine lv_aload_n hx hb dJx4a65c_grow_92f84_0 rfl (lv_at hl 0 rfl) ?_
  refine x_get (C := RJx4a65c) (TT := TJx4a65c) (N := 3) (ci := 2) (v := .ref arr) hx hb hts in_Jx4a65c_grow_92f84_RJx4a65c hown hK (ho) rfl 1 (by decide) (hts (.fieldLink RJx4a65c 9 "java/util/ArrayList" "elementData" "[Ljava/lang/Object;") (by decide +kernel)) (fun _ h9 => h9) rfl dJx4a65c_grow_92f84_1 ?_
  refine x_olenA hx hb hev hS hg hc0 dJx4a65c_grow_92f84_4 ?_
  refine lv_istore_n (lv' := [(2, .int (nI cap)), (0, .ref a), (1, .int (nI (cap + 1)))]) hx hb dJx4a65c_grow_92f84_5 rfl hl (by decide) rfl (fun ls hl => ?_)
  refine lv_iload_n hx hb dJx4a65c_grow_92f84_6 rfl (lv_at hl 0 rfl) ?_
  refine y_if_gt hx hb (by omega) (tgt := 20) dJx4a65c_grow_92f84_7 (by decide) (fun c7 => ?_) (fun c7 => ?_)
  · refine lv_iload_n hx hb dJx4a65c_grow_92f84_20 rfl (lv_at hl 0 rfl) ?_
    refine lv_iload_n hx hb dJx4a65c_grow_92f84_21 rfl (lv_at hl 2 rfl) ?_
    refine lv_iload_n hx hb dJx4a65c_grow_92f84_22 rfl (lv_at hl 0 rfl) ?_
    refine y_isub hx hb (by omega) dJx4a65c_grow_92f84_23 ?_
    refine lv_iload_n hx hb dJx4a65c_grow_92f84_24 rfl (lv_at hl 0 rfl) ?_
    refine lv_iconst (v := nI 1) hx hb dJx4a65c_grow_92f84_25 (by decide) ?_
    refine lv_ishr hx hb dJx4a65c_grow_92f84_26 ?_
    refine x_top (y := (nI ((cap / 2)))) (shr1 (by omega)) ?_
    refine k_ip (k_S (As := [.int (nI cap), .int (nI ((cap + 1) - cap)), .int (nI ((cap / 2)))]) (rest := []) ⟨hx, hb, hml, hown, hts⟩ hev hS (c_J8_newLength_cabcc l (a1 := cap) (a2 := cap + 1 - cap) (a3 := cap / 2) (by omega) (by omega) (by omega) (by omega)) (va_cwS 3 hts gJx4a65c_grow_92f84_J8_newLength_cabcc rfl rfl rfl (by decide +kernel) ⟨Nat.le_of_ble_eq_true rfl, Nat.le_of_ble_eq_true rfl⟩) rfl hl.1 (Nat.le_of_ble_eq_true rfl) dJx4a65c_grow_92f84_27 (Nat.le_of_ble_eq_true rfl) (Nat.le_of_ble_eq_true rfl)) hS hnt hlk (fun _ _ h _ => h.elim) (Nat.le_of_ble_eq_true rfl) (Nat.le_of_ble_eq_true rfl) (fun rq1_ H1 locs1 hP hz1 hS => ?_)
    refine W.widen (k := 0) (n := 0) (Nat.le_refl _) (Nat.le_refl _) ?_
    obtain ⟨eH, er⟩ := hP
    refine x_top (y := (nI ((capN cap)))) (by rw [er, capNs c7]) ?_
    have hg : rc (T 3) H1 arr cap fe := by rw [eH]; exact hg.1 (by omega)
    have ho : oc D H1 a 2 [.int mo, .ref arr, .int (nI cap)] := by rw [eH]; exact ho
    refine lv_istore_n (lv' := [(3, .int (nI ((capN cap)))), (2, .int (nI cap)), (0, .ref a), (1, .int (nI (cap + 1)))]) hx hb dJx4a65c_grow_92f84_30 rfl hl (by decide) rfl (fun ls hl => ?_)
    refine lv_aload_n hx hb dJx4a65c_grow_92f84_31 rfl (lv_at hl 2 rfl) ?_
    refine lv_aload_n hx hb dJx4a65c_grow_92f84_32 rfl (lv_at hl 2 rfl) ?_
    refine x_get (C := RJx4a65c) (TT := TJx4a65c) (N := 3) (ci := 2) (v := .ref arr) hx hb hts in_Jx4a65c_grow_92f84_RJx4a65c hown hK (ho) rfl 1 (by decide) (hts (.fieldLink RJx4a65c 9 "java/util/ArrayList" "elementData" "[Ljava/lang/Object;") (by decide +kernel)) (fun _ h9 => h9) rfl dJx4a65c_grow_92f84_33 ?_
    refine lv_iload_n hx hb dJx4a65c_grow_92f84_36 rfl (lv_at hl 0 rfl) ?_
    refine k_qp (k_S (As := [.ref arr, .int (nI ((capN cap)))]) (rest := [.ref a]) ⟨hx, hb, hml, hown, hts⟩ hev hS (c_J7_copyOf_1904c l hg (Nat.le_of_lt capN_gt) (by omega) (fun q9 h9 => hAn q9 (by rw [← eH]; exact h9)) (fun x hx2 y hy => by have e9 := (hfe x hx2).symm.trans hy; obtain rfl := Option.some.inj e9; obtain ⟨-, vs, hvs⟩ := hel x hx2; exact ⟨vs, by rw [eH]; exact hvs⟩) hci hca) (va_cwS 2 hts gJx4a65c_grow_92f84_J7_copyOf_1904c rfl rfl rfl (by decide +kernel) ⟨Nat.le_of_ble_eq_true rfl, Nat.le_of_ble_eq_true rfl⟩) rfl hl.1 (Nat.le_of_ble_eq_true rfl) dJx4a65c_grow_92f84_37 (Nat.le_of_ble_eq_true rfl) (by show _ ≤ ((capN cap) : Nat); omega)) hS hnt hlk (fun _ _ h _ => h.elim) (Nat.le_of_ble_eq_true rfl) (by show _ ≤ ((capN cap) : Nat); omega) (fun rq2_ H2 locs2 hP hz2 hS => ?_)
    rw [eH] at hP
    obtain ⟨er, ⟨fe2, eg1, eg2⟩, ez, eq9⟩ := hP
    refine x_tov (y := .ref H.size) (by rw [er]; rfl) ?_
    have ho : oc D H2 a 2 [.int mo, .ref arr, .int (nI cap)] := (show oc D H a 2 [.int mo, .ref arr, .int (nI cap)] by rw [← eH]; exact ho).kept (eq9 _ hL.lt.1)
    refine lv_dup_x1 hx hb dJx4a65c_grow_92f84_40 rfl rfl ?_
    refine x_put (C := RJx4a65c) (TT := TJx4a65c) (N := 3) (ci := 2) (v := .ref H.size) (ty := tyJx4a65c 1) hx hb hts in_Jx4a65c_grow_92f84_RJx4a65c tyJx4a65c tyJx4a65c_ok nmJx4a65c hown hK hS (ho) hAa rfl 1 (by decide) (hts (.fieldLink RJx4a65c 9 "java/util/ArrayList" "elementData" "[Ljava/lang/Object;") (by decide +kernel)) (fun _ h9 => h9) rfl (tyJx4a65c_ok 1 (by decide)) rfl rfl (Nat.le_of_ble_eq_true rfl) dJx4a65c_grow_92f84_41 (fun H3 locs3 ho3 hz3 hq3 hS => ?_)
    have ho3 : oc D H3 a 2 [.int mo, .ref H.size, .int (nI cap)] := ho3
    exact r_q (r := some H.size) hx hb hrt9 (Or.inr ⟨_, rfl⟩) hlk hS (Nat.le_of_ble_eq_true rfl) (by omega) dJx4a65c_grow_92f84_44 (⟨rfl, ⟨mo, fe2, ho3, eg1.kept (hq3 _ (by have h9 := hL.lt.1; omega)), fun i hi => (eg2 i hi).trans (hfe i hi)⟩, by rw [hz3, ez], fun q9 h9 h8 => (hq3 q9 h8).trans (eq9 q9 h9)⟩)
  · have c7 : cap = 0 := by omega
    refine lv_aload_n hx hb dJx4a65c_grow_92f84_10 rfl (lv_at hl 1 rfl) ?_
    refine x_get (C := RJx4a65c) (TT := TJx4a65c) (N := 3) (ci := 2) (v := .ref arr) hx hb hts in_Jx4a65c_grow_92f84_RJx4a65c hown hK (ho) rfl 1 (by decide) (hts (.fieldLink RJx4a65c 9 "java/util/ArrayList" "elementData" "[Ljava/lang/Object;") (by decide +kernel)) (fun _ h9 => h9) rfl dJx4a65c_grow_92f84_11 ?_
    refine va_gets hx hb hev.2.1.1 hS hown (hts (.fieldLink RJx4a65c 39 "java/util/ArrayList" "DEFAULTCAPACITY_EMPTY_ELEMENTDATA" "[Ljava/lang/Object;") (by decide +kernel)) (fun _ h9 => h9) dJx4a65c_grow_92f84_14 ?_
    refine lv_acmp_eq (rx := (some arr)) (ry := (some dE)) (tgt := 45) hx hb dJx4a65c_grow_92f84_17 (by decide) (fun c17 => ?_) (fun c17 => ?_)
    · refine lv_aload_n hx hb dJx4a65c_grow_92f84_45 rfl (lv_at hl 1 rfl) ?_
      refine lv_bipush (v := nI 10) hx hb dJx4a65c_grow_92f84_46 (by decide) ?_
      refine lv_iload_n hx hb dJx4a65c_grow_92f84_48 rfl (lv_at hl 2 rfl) ?_
      refine va_mmax hx hb (hml.trans hl.1.symm) hown (hts (.methodLink RJx4a65c 79 Lib.Math.max.name) (by decide +kernel)) (hts (.static Lib.Math.max.name) (by decide +kernel)) (hts (.initialized "java/lang/Math") (by decide +kernel)) (hts (.code Lib.Math.max.name Lib.Math.max.code 2 (some .int)) (by decide +kernel)) (Nat.le_of_ble_eq_true rfl) (Nat.le_of_ble_eq_true rfl) (Nat.le_of_ble_eq_true rfl) (Nat.le_of_ble_eq_true rfl) dJx4a65c_grow_92f84_49 ?_
      refine x_top (y := (nI ((capN cap)))) (by rw [if_neg (nI_nlt (by omega) (by omega)), capN0 c7]) ?_
      refine x_newq (C := "java/lang/Object") (t0 := 3) (n := (capN cap)) hx hb hown (hts (.classLink RJx4a65c 7 "java/lang/Object") (by decide +kernel)) hev.2.2.2.2.2.2.1.2 hK rfl hS (by omega) (Nat.le_of_ble_eq_true rfl) (by show _ ≤ ((capN cap) : Nat); omega) dJx4a65c_grow_92f84_52 (fun H4 hn4 hz4 hq4 hS => ?_)
      have ho := ho.kept (hq4 _ ho.lt)
      refine lv_dup_x1 hx hb dJx4a65c_grow_92f84_55 rfl rfl ?_
      refine x_put (C := RJx4a65c) (TT := TJx4a65c) (N := 3) (ci := 2) (v := .ref H.size) (ty := tyJx4a65c 1) hx hb hts in_Jx4a65c_grow_92f84_RJx4a65c tyJx4a65c tyJx4a65c_ok nmJx4a65c hown hK hS (ho) hAa rfl 1 (by decide) (hts (.fieldLink RJx4a65c 9 "java/util/ArrayList" "elementData" "[Ljava/lang/Object;") (by decide +kernel)) (fun _ h9 => h9) rfl (tyJx4a65c_ok 1 (by decide)) rfl rfl (Nat.le_of_ble_eq_true rfl) dJx4a65c_grow_92f84_56 (fun H5 locs5 ho5 hz5 hq5 hS => ?_)
      have ho5 : oc D H5 a 2 [.int mo, .ref H.size, .int (nI cap)] := ho5
      exact r_q (r := some H.size) hx hb hrt9 (Or.inr ⟨_, rfl⟩) hlk hS (Nat.le_of_ble_eq_true rfl) (by omega) dJx4a65c_grow_92f84_59 (⟨rfl, ⟨mo, _, ho5, hn4.kept (hq5 _ (by have h9 := hL.lt.1; omega)), fun i hi => absurd hi (by omega)⟩, by rw [hz5, hz4], fun q9 h9 h8 => (hq5 q9 h8).trans (hq4 q9 h9)⟩)
    · exact absurd (congrArg some (hc0 c7)) c17
set_option maxRecDepth 100000 in
theorem in_Jx4a65c_grow_d5877_RJx4a65c : ∀ w ∈ wsJx4a65c0, w ∈ wsJx4a65c_grow_d5877 := by decide +kernel
set_option maxHeartbeats 4000000 in
set_option maxRecDepth 100000 in
theorem c_Jx4a65c_grow_d5877 (l : Launch) {D : va_G} {T : Nat → ClassId} {dE mi : Nat} {A : Nat → Prop} {H : Heap} {a arr cap ci : Nat} {f : Nat → Nat} {rr : vw_C} (hL : AL D T dE H a arr cap cap f) (hcp : cap < 1000) (hAa : A a) (hAn : ∀ q : Nat, H.size ≤ q → A q) (hel : ∀ x, x < cap → f x ≠ a ∧ ∃ vs, oc D H (f x) ci vs) (hci : vwCl[ci]? = some rr) (hca : (rr.1, "java/lang/Object") ∈ evCast) : vx_Met l yJx4a65c_grow_d5877 wsJx4a65c_grow_d5877 (rmL 5 1 (capN cap)) (PcE D T dE mi A H [.ref a]) (QQ A (fun r H1 => r = some H.size ∧ (∃ (mo1 : Int32) (fe2 : Nat → Option Nat), oc D H1 a 2 [.int mo1, .ref H.size, .int (nI cap)] ∧ rc (T 3) H1 H.size (capN cap) fe2 ∧ ∀ i, i < cap → fe2 i = some (f i)) ∧ H1.size = H.size + 1 ∧ ∀ q : Nat, q < H.size → q ≠ a → H1[q]? = H[q]?)) (XX A (XN)) 1 (capN cap) A := by
  refine entry (cc := cJx4a65c_grow_d5877) (maxL := 1) (ret := (some (.array (.object "java/lang/Object")))) (by decide) rfl (Nat.le_of_ble_eq_true rfl) ?_
  intro p e s m args below meth c hx hb hrt9 hml hown hts hlk hnt hnm hev hS ls hl
  have hown : s.vm.findClass RJx4a65c = some m.cls := hown
  have hK := hev.1
  have hl : lv_has ls 1 [(0, .ref a)] := hl
  obtain ⟨hne, hnc, hcap, hc0, mo, fe, ho, hg, hfe⟩ := id hL
  refine lv_aload_n hx hb dJx4a65c_grow_d5877_0 rfl (lv_at hl 0 rfl) ?_
  refine lv_aload_n hx hb dJx4a65c_grow_d5877_1 rfl (lv_at hl 0 rfl) ?_
  refine x_get (C := RJx4a65c) (TT := TJx4a65c) (N := 3) (ci := 2) (v := .int (nI cap)) hx hb hts in_Jx4a65c_grow_d5877_RJx4a65c hown hK (ho) rfl 2 (by decide) (hts (.fieldLink RJx4a65c 48 "java/util/ArrayList" "size" "I") (by decide +kernel)) (fun _ h9 => h9) rfl dJx4a65c_grow_d5877_2 ?_
  refine lv_iconst (v := nI 1) hx hb dJx4a65c_grow_d5877_5 (by decide) ?_
  refine y_iadd hx hb dJx4a65c_grow_d5877_6 ?_
  refine k_qp (k_V (As := [.int (nI (cap + 1))]) (rest := []) ⟨hx, hb, hml, hown, hts⟩ hev hS (c_Jx4a65c_grow_92f84 l hL hcp hAa hAn hel hci hca) (cwV 1 hts gJx4a65c_grow_d5877_Jx4a65c_grow_92f84 rfl rfl rfl (by decide +kernel) ⟨Nat.le_of_ble_eq_true rfl, Nat.le_of_ble_eq_true rfl⟩) (x_recv hK ((hL.rec).choose_spec) rfl) rfl hl.1 (Nat.le_of_ble_eq_true rfl) dJx4a65c_grow_d5877_7 (Nat.le_of_ble_eq_true rfl) (by show _ ≤ ((capN cap) : Nat); omega)) hS hnt hlk (fun _ _ h _ => h.elim) (Nat.le_of_ble_eq_true rfl) (by show _ ≤ ((capN cap) : Nat); omega) (fun rq1_ H1 locs1 hP hz1 hS => ?_)
  obtain ⟨er, eg, ez, eq9⟩ := hP
  exact r_q (r := rq1_) hx hb hrt9 (Or.inr ⟨_, rfl⟩) hlk hS (Nat.le_of_ble_eq_true rfl) (by omega) dJx4a65c_grow_d5877_10 (⟨er, eg, ez, eq9⟩)
set_option maxRecDepth 100000 in
theorem in_Jx4a65c_add_72be8_RJx4a65c : ∀ w ∈ wsJx4a65c0, w ∈ wsJx4a65c_add_72be8 := by decide +kernel
set_option maxHeartbeats 4000000 in
set_option maxRecDepth 100000 in
theorem c_addh_room (l : Launch) {D : va_G} {T : Nat → ClassId} {dE mi : Nat} {A : Nat → Prop} {H : Heap} {a arr cap n ci : Nat} {f : Nat → Nat} {rr : vw_C} (hL : AL D T dE H a arr cap n f) (hlt : n < cap) (hAa : A a) (hAr : 0 < cap → A arr) (hci : vwCl[ci]? = some rr) (hca : (rr.1, "java/lang/Object") ∈ evCast) {v : Nat} {vs : List Value} (hv : oc D H v ci vs) (hva : v ≠ a) : vx_Met l yJx4a65c_add_72be8 wsJx4a65c_add_72be8 (rmL 6 0 0) (PcE D T dE mi A H [.ref a, .ref v, .ref arr, .int (nI n)]) (QV A (fun H1 => AL D T dE H1 a arr cap (n + 1) (nu f n v) ∧ H1.size = H.size ∧ ∀ q : Nat, q ≠ a → q ≠ arr → H1[q]? = H[q]?)) (XX A (XN)) 0 0 A := by
  refine entry (cc := cJx4a65c_add_72be8) (maxL := 4) (ret := none) (by decide) rfl (Nat.le_of_ble_eq_true rfl) ?_
  intro p e s m args below meth c hx hb hrt9 hml hown hts hlk hnt hnm hev hS ls hl
  have hown : s.vm.findClass RJx4a65c = some m.cls := hown
  have hK := hev.1
  have hl : lv_has ls 4 [(0, .ref a), (1, .ref v), (2, .ref arr), (3, .int (nI n))] := hl
  obtain ⟨hne, hnc, hcap, hc0, mo, fe, ho, hg, hfe⟩ := id hL
  refine lv_iload_n hx hb dJx4a65c_add_72be8_0 rfl (lv_at hl 3 rfl) ?_
  refine lv_aload_n hx hb dJx4a65c_add_72be8_1 rfl (lv_at hl 2 rfl) ?_
  refine x_olenA hx hb hev hS hg hc0 dJx4a65c_add_72be8_2 ?_
  refine y_icmp_ne hx hb (by omega) (by omega) (tgt := 11) dJx4a65c_add_72be8_3 (by decide) (fun c3 => ?_) (fun c3 => ?_)
  · refine lv_aload_n hx hb dJx4a65c_add_72be8_11 rfl (lv_at hl 2 rfl) ?_
    refine lv_iload_n hx hb dJx4a65c_add_72be8_12 rfl (lv_at hl 3 rfl) ?_
    refine lv_aload_n hx hb dJx4a65c_add_72be8_13 rfl (lv_at hl 1 rfl) ?_
    refine x_aastC (t0 := 3) (i := n) hx hb hK hS (hg.1 (by omega)) rfl (hev.2.2.2.1 _ hca) (hAr (by omega)) (by omega) (by omega) hv hci dJx4a65c_add_72be8_14 (fun H1 locs1 hg1 hz1 hq1 hS => ?_)
    have ho : oc D H1 a 2 [.int mo, .ref arr, .int (nI n)] := ho.kept (hq1 _ (Ne.symm hne))
    refine lv_aload_n hx hb dJx4a65c_add_72be8_15 rfl (lv_at hl 0 rfl) ?_
    refine lv_iload_n hx hb dJx4a65c_add_72be8_16 rfl (lv_at hl 3 rfl) ?_
    refine lv_iconst (v := nI 1) hx hb dJx4a65c_add_72be8_17 (by decide) ?_
    refine y_iadd hx hb dJx4a65c_add_72be8_18 ?_
    refine x_put (C := RJx4a65c) (TT := TJx4a65c) (N := 3) (ci := 2) (v := .int (nI (n + 1))) (ty := tyJx4a65c 2) hx hb hts in_Jx4a65c_add_72be8_RJx4a65c tyJx4a65c tyJx4a65c_ok nmJx4a65c hown hK hS (ho) hAa rfl 2 (by decide) (hts (.fieldLink RJx4a65c 48 "java/util/ArrayList" "size" "I") (by decide +kernel)) (fun _ h9 => h9) rfl (tyJx4a65c_ok 2 (by decide)) rfl rfl (Nat.le_of_ble_eq_true rfl) dJx4a65c_add_72be8_19 (fun H2 locs2 ho2 hz2 hq2 hS => ?_)
    have ho2 : oc D H2 a 2 [.int mo, .ref arr, .int (nI (n + 1))] := ho2
    exact r_v hx hb hrt9 hlk hS (Nat.le_of_ble_eq_true rfl) (Nat.le_of_ble_eq_true rfl) dJx4a65c_add_72be8_22 (⟨AL.up hne hlt hcap ho2 (hg1.kept (hq2 _ hne)) hfe, by rw [hz2, hz1], fun q9 h9 h8 => (hq2 q9 h9).trans (hq1 q9 h8)⟩)
  · exact absurd c3 (by omega)
set_option maxHeartbeats 4000000 in
set_option maxRecDepth 100000 in
theorem c_addh_grow (l : Launch) {D : va_G} {T : Nat → ClassId} {dE mi : Nat} {A : Nat → Prop} {H : Heap} {a arr cap ci : Nat} {f : Nat → Nat} {rr : vw_C} (hL : AL D T dE H a arr cap cap f) (hcp : cap < 1000) (hAa : A a) (hAn : ∀ q : Nat, H.size ≤ q → A q) (hel : ∀ x, x < cap → f x ≠ a ∧ ∃ vs, oc D H (f x) ci vs) (hci : vwCl[ci]? = some rr) (hca : (rr.1, "java/lang/Object") ∈ evCast) {v : Nat} {vs : List Value} (hv : oc D H v ci vs) (hva : v ≠ a) : vx_Met l yJx4a65c_add_72be8 wsJx4a65c_add_72be8 (rmL 6 1 (capN cap)) (PcE D T dE mi A H [.ref a, .ref v, .ref arr, .int (nI cap)]) (QV A (fun H1 => AL D T dE H1 a H.size (capN cap) (cap + 1) (nu f cap v) ∧ H1.size = H.size + 1 ∧ ∀ q : Nat, q < H.size → q ≠ a → H1[q]? = H[q]?)) (XX A (XN)) 1 (capN cap) A := by
  refine entry (cc := cJx4a65c_add_72be8) (maxL := 4) (ret := none) (by decide) rfl (Nat.le_of_ble_eq_true rfl) ?_
  intro p e s m args below meth c hx hb hrt9 hml hown hts hlk hnt hnm hev hS ls hl
  have hown : s.vm.findClass RJx4a65c = some m.cls := hown
  have hK := hev.1
  have hl : lv_has ls 4 [(0, .ref a), (1, .ref v), (2, .ref arr), (3, .int (nI cap))] := hl
  obtain ⟨hne, hnc, hcap, hc0, mo, fe, ho, hg, hfe⟩ := id hL
  refine lv_iload_n hx hb dJx4a65c_add_72be8_0 rfl (lv_at hl 3 rfl) ?_
  refine lv_aload_n hx hb dJx4a65c_add_72be8_1 rfl (lv_at hl 2 rfl) ?_
  refine x_olenA hx hb hev hS hg hc0 dJx4a65c_add_72be8_2 ?_
  refine y_icmp_ne hx hb (by omega) (by omega) (tgt := 11) dJx4a65c_add_72be8_3 (by decide) (fun c3 => ?_) (fun c3 => ?_)
  · exact absurd rfl c3
  · refine lv_aload_n hx hb dJx4a65c_add_72be8_6 rfl (lv_at hl 0 rfl) ?_
    refine k_qp (k_V (As := []) (rest := []) ⟨hx, hb, hml, hown, hts⟩ hev hS (c_Jx4a65c_grow_d5877 l hL hcp hAa hAn hel hci hca) (cwV 0 hts gJx4a65c_add_72be8_Jx4a65c_grow_d5877 rfl rfl rfl (by decide +kernel) ⟨Nat.le_of_ble_eq_true rfl, Nat.le_of_ble_eq_true rfl⟩) (x_recv hK ((hL.rec).choose_spec) rfl) rfl hl.1 (Nat.le_of_ble_eq_true rfl) dJx4a65c_add_72be8_7 (Nat.le_of_ble_eq_true rfl) (by show _ ≤ ((capN cap) : Nat); omega)) hS hnt hlk (fun _ _ h _ => h.elim) (Nat.le_of_ble_eq_true rfl) (by show _ ≤ ((capN cap) : Nat); omega) (fun rq1_ H1 locs1 hP hz1 hS => ?_)
    obtain ⟨er, ⟨mo1, fe2, ho, hg, hfe2⟩, ez, eq9⟩ := hP
    refine x_tov (y := .ref H.size) (by rw [er]; rfl) ?_
    have hv := hv.kept (eq9 _ hv.lt hva)
    have hne2 : H.size ≠ a := by have h9 := hL.lt.1; omega
    have hcN := capN_lt hcp
    have hcg := capN_gt (cap := cap)
    refine lv_astore_n (lv' := [(2, .ref H.size), (0, .ref a), (1, .ref v), (3, .int (nI cap))]) hx hb dJx4a65c_add_72be8_10 rfl hl (by decide) rfl (fun ls hl => ?_)
    refine lv_aload_n hx hb dJx4a65c_add_72be8_11 rfl (lv_at hl 0 rfl) ?_
    refine lv_iload_n hx hb dJx4a65c_add_72be8_12 rfl (lv_at hl 3 rfl) ?_
    refine lv_aload_n hx hb dJx4a65c_add_72be8_13 rfl (lv_at hl 2 rfl) ?_
    refine x_aastC (t0 := 3) (i := cap) hx hb hK hS hg rfl (hev.2.2.2.1 _ hca) (hAn _ (Nat.le_refl _)) (by omega) (by omega) hv hci dJx4a65c_add_72be8_14 (fun H2 locs2 hg2 hz2 hq2 hS => ?_)
    have ho : oc D H2 a 2 [.int mo1, .ref H.size, .int (nI cap)] := ho.kept (hq2 _ (Ne.symm hne2))
    refine lv_aload_n hx hb dJx4a65c_add_72be8_15 rfl (lv_at hl 1 rfl) ?_
    refine lv_iload_n hx hb dJx4a65c_add_72be8_16 rfl (lv_at hl 3 rfl) ?_
    refine lv_iconst (v := nI 1) hx hb dJx4a65c_add_72be8_17 (by decide) ?_
    refine y_iadd hx hb dJx4a65c_add_72be8_18 ?_
    refine x_put (C := RJx4a65c) (TT := TJx4a65c) (N := 3) (ci := 2) (v := .int (nI (cap + 1))) (ty := tyJx4a65c 2) hx hb hts in_Jx4a65c_add_72be8_RJx4a65c tyJx4a65c tyJx4a65c_ok nmJx4a65c hown hK hS (ho) hAa rfl 2 (by decide) (hts (.fieldLink RJx4a65c 48 "java/util/ArrayList" "size" "I") (by decide +kernel)) (fun _ h9 => h9) rfl (tyJx4a65c_ok 2 (by decide)) rfl rfl (Nat.le_of_ble_eq_true rfl) dJx4a65c_add_72be8_19 (fun H3 locs3 ho3 hz3 hq3 hS => ?_)
    have ho3 : oc D H3 a 2 [.int mo1, .ref H.size, .int (nI (cap + 1))] := ho3
    exact r_v hx hb hrt9 hlk hS (Nat.le_of_ble_eq_true rfl) (by omega) dJx4a65c_add_72be8_22 (⟨AL.up hne2 hcg (by omega) ho3 (hg2.kept (hq3 _ hne2)) hfe2, by rw [hz3, hz2, ez], fun q9 h9 h8 => (hq3 q9 h8).trans ((hq2 q9 (by omega)).trans (eq9 q9 h9 h8))⟩)
