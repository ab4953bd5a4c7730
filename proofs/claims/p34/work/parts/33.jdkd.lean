theorem AL.ins {D : va_G} {T : Nat → ClassId} {dE : Nat} {H : Heap} {a arr cap n i v : Nat} {f : Nat → Nat} {mo : Int32} {fe : Nat → Option Nat} (hne : arr ≠ a) (hn : n < cap) (hi : i ≤ n) (hc : cap < 100000) (ho : oc D H a 2 [.int mo, .ref arr, .int (nI (n + 1))]) (hg : rc (T 3) H arr cap (va_up (va_cpy fe fe i (i + 1) (n - i)) i (some v))) (hf : ∀ j, j < n → fe j = some (f j)) : AL D T dE H a arr cap (n + 1) (insF f i v) := by
  refine ⟨hne, hn, hc, fun z => by omega, mo, _, ho, hg.ra, fun j hj => ?_⟩
  show (if j = i then some v else va_cpy fe fe i (i + 1) (n - i) j) = some (insF f i v j)
  unfold insF va_cpy
  by_cases c1 : j = i
  · rw [if_pos c1, if_neg (by omega), if_pos c1]
  · rw [if_neg c1, if_neg c1]
    by_cases c2 : j < i
    · rw [if_pos c2, if_neg (by omega)]; exact hf j (by omega)
    · rw [if_neg c2, if_pos (by omega), hf _ (by omega)]
      congr 2; omega
theorem AL.setf {D : va_G} {T : Nat → ClassId} {dE : Nat} {H : Heap} {a arr cap n i v : Nat} {f : Nat → Nat} {mo : Int32} {fe : Nat → Option Nat} (hne : arr ≠ a) (hn : n ≤ cap) (hc : cap < 100000) (h0 : cap = 0 → arr = dE) (ho : oc D H a 2 [.int mo, .ref arr, .int (nI n)]) (hg : rc (T 3) H arr cap (va_up fe i (some v))) (hf : ∀ j, j < n → fe j = some (f j)) : AL D T dE H a arr cap n (nu f i v) := by
  refine ⟨hne, hn, hc, h0, mo, _, ho, hg.ra, fun j hj => ?_⟩
  show (if j = i then some v else fe j) = some (nu f i v j)
  by_cases c1 : j = i
  · rw [if_pos c1, c1, nu_s]
  · rw [if_neg c1, nu_n c1]; exact hf j hj
theorem AL.cut {D : va_G} {T : Nat → ClassId} {dE : Nat} {H : Heap} {a arr cap i : Nat} {f : Nat → Nat} {mo : Int32} {fe : Nat → Option Nat} (hne : arr ≠ a) (hn : i < cap) (hc : cap < 100000) (ho : oc D H a 2 [.int mo, .ref arr, .int (nI i)]) (hg : rc (T 3) H arr cap (va_up fe i none)) (hf : ∀ j, j < i + 1 → fe j = some (f j)) : AL D T dE H a arr cap i f := by
  refine ⟨hne, Nat.le_of_lt hn, hc, fun z => by omega, mo, _, ho, hg.ra, fun j hj => ?_⟩
  show (if j = i then none else fe j) = some (f j)
  rw [if_neg (by omega)]; exact hf j (by omega)
set_option maxRecDepth 100000 in
theorem in_Jx4a65c_add_9ea2d_RJx4a65c : ∀ w ∈ wsJx4a65c0, w ∈ wsJx4a65c_add_9ea2d := by decide +kernel
set_option maxHeartbeats 4000000 in
set_option maxRecDepth 100000 in
theorem c_add_room (l : Launch) {D : va_G} {T : Nat → ClassId} {dE mi : Nat} {A : Nat → Prop} {H : Heap} {a arr cap n ci : Nat} {f : Nat → Nat} {rr : vw_C} (hL : AL D T dE H a arr cap n f) (hlt : n < cap) (hAa : A a) (hAr : 0 < cap → A arr) (hci : vwCl[ci]? = some rr) (hca : (rr.1, "java/lang/Object") ∈ evCast) {v : Nat} {vs : List Value} (hv : oc D H v ci vs) (hva : v ≠ a) : vx_Met l yJx4a65c_add_9ea2d wsJx4a65c_add_9ea2d (rmL 7 0 0) (PcE D T dE mi A H [.ref a, .ref v]) (QI A (fun r H1 => r = nI 1 ∧ AL D T dE H1 a arr cap (n + 1) (nu f n v) ∧ H1.size = H.size ∧ ∀ q : Nat, q ≠ a → q ≠ arr → H1[q]? = H[q]?)) (XX A (XN)) 0 0 A := by
  refine entry (cc := cJx4a65c_add_9ea2d) (maxL := 2) (ret := (some .boolean)) (by decide) rfl (Nat.le_of_ble_eq_true rfl) ?_
  intro p e s m args below meth c hx hb hrt9 hml hown hts hlk hnt hnm hev hS ls hl
  have hown : s.vm.findClass RJx4a65c = some m.cls := hown
  have hK := hev.1
  have hl : lv_has ls 2 [(0, .ref a), (1, .ref v)] := hl
  obtain ⟨hne, hnc, hcap, hc0, mo, fe, ho, hg, hfe⟩ := id hL
  refine lv_aload_n hx hb dJx4a65c_add_9ea2d_0 rfl (lv_at hl 0 rfl) ?_
  refine lv_dup hx hb dJx4a65c_add_9ea2d_1 rfl ?_
  refine x_get (C := RJx4a65c) (TT := TJx4a65c) (N := 3) (ci := 2) (v := .int mo) hx hb hts in_Jx4a65c_add_9ea2d_RJx4a65c hown hK (ho) rfl 0 (by decide) (hts (.fieldLink RJx4a65c 63 "java/util/ArrayList" "modCount" "I") (by decide +kernel)) (u_same (hts (.sameField "java/util/ArrayList" "java/util/AbstractList" "modCount" "I") (by decide +kernel))) rfl dJx4a65c_add_9ea2d_2 ?_
  refine lv_iconst (v := nI 1) hx hb dJx4a65c_add_9ea2d_5 (by decide) ?_
  refine lv_iadd hx hb dJx4a65c_add_9ea2d_6 ?_
  refine x_put (C := RJx4a65c) (TT := TJx4a65c) (N := 3) (ci := 2) (v := .int (mo + (nI 1))) (ty := tyJx4a65c 0) hx hb hts in_Jx4a65c_add_9ea2d_RJx4a65c tyJx4a65c tyJx4a65c_ok nmJx4a65c hown hK hS (ho) hAa rfl 0 (by decide) (hts (.fieldLink RJx4a65c 63 "java/util/ArrayList" "modCount" "I") (by decide +kernel)) (u_same (hts (.sameField "java/util/ArrayList" "java/util/AbstractList" "modCount" "I") (by decide +kernel))) rfl (tyJx4a65c_ok 0 (by decide)) rfl rfl (Nat.le_of_ble_eq_true rfl) dJx4a65c_add_9ea2d_7 (fun H1 locs1 ho1 hz1 hq1 hS => ?_)
  have ho1 : oc D H1 a 2 [.int (mo + (nI 1)), .ref arr, .int (nI n)] := ho1
  have ho := ho1
  have hg := hg.kept (hq1 _ hne)
  have hL : AL D T dE H1 a arr cap n f := ⟨hne, hnc, hcap, hc0, _, fe, ho1, hg, hfe⟩
  have hv := hv.kept (hq1 _ hva)
  refine lv_aload_n hx hb dJx4a65c_add_9ea2d_10 rfl (lv_at hl 0 rfl) ?_
  refine lv_aload_n hx hb dJx4a65c_add_9ea2d_11 rfl (lv_at hl 1 rfl) ?_
  refine lv_aload_n hx hb dJx4a65c_add_9ea2d_12 rfl (lv_at hl 0 rfl) ?_
  refine x_get (C := RJx4a65c) (TT := TJx4a65c) (N := 3) (ci := 2) (v := .ref arr) hx hb hts in_Jx4a65c_add_9ea2d_RJx4a65c hown hK (ho1) rfl 1 (by decide) (hts (.fieldLink RJx4a65c 9 "java/util/ArrayList" "elementData" "[Ljava/lang/Object;") (by decide +kernel)) (fun _ h9 => h9) rfl dJx4a65c_add_9ea2d_13 ?_
  refine lv_aload_n hx hb dJx4a65c_add_9ea2d_16 rfl (lv_at hl 0 rfl) ?_
  refine x_get (C := RJx4a65c) (TT := TJx4a65c) (N := 3) (ci := 2) (v := .int (nI n)) hx hb hts in_Jx4a65c_add_9ea2d_RJx4a65c hown hK (ho1) rfl 2 (by decide) (hts (.fieldLink RJx4a65c 48 "java/util/ArrayList" "size" "I") (by decide +kernel)) (fun _ h9 => h9) rfl dJx4a65c_add_9ea2d_17 ?_
  refine k_vp (k_V (As := [.ref v, .ref arr, .int (nI n)]) (rest := []) ⟨hx, hb, hml, hown, hts⟩ hev hS (c_addh_room l hL hlt hAa hAr hci hca hv hva) (cwV 3 hts gJx4a65c_add_9ea2d_Jx4a65c_add_72be8 rfl rfl rfl (by decide +kernel) ⟨Nat.le_of_ble_eq_true rfl, Nat.le_of_ble_eq_true rfl⟩) (x_recv hK ((hL.rec).choose_spec) rfl) rfl hl.1 (Nat.le_of_ble_eq_true rfl) dJx4a65c_add_9ea2d_20 (Nat.le_of_ble_eq_true rfl) (Nat.le_of_ble_eq_true rfl)) hS hnt hlk (fun _ _ h _ => h.elim) (Nat.le_of_ble_eq_true rfl) (Nat.le_of_ble_eq_true rfl) (fun H2 locs2 hP hz2 hS => ?_)
  refine W.widen (k := 0) (n := 0) (Nat.le_refl _) (Nat.le_refl _) ?_
  obtain ⟨hL9, ez, eq9⟩ := hP
  refine lv_iconst (v := nI 1) hx hb dJx4a65c_add_9ea2d_23 (by decide) ?_
  exact r_z hx hb hrt9 hlk hS (Nat.le_of_ble_eq_true rfl) (Nat.le_of_ble_eq_true rfl) dJx4a65c_add_9ea2d_24 rfl (⟨rfl, hL9, by rw [ez, hz1], fun q9 h9 h8 => (eq9 q9 h9 h8).trans (hq1 q9 h9)⟩)
set_option maxHeartbeats 4000000 in
set_option maxRecDepth 100000 in
theorem c_add_grow (l : Launch) {D : va_G} {T : Nat → ClassId} {dE mi : Nat} {A : Nat → Prop} {H : Heap} {a arr cap ci : Nat} {f : Nat → Nat} {rr : vw_C} (hL : AL D T dE H a arr cap cap f) (hcp : cap < 1000) (hAa : A a) (hAn : ∀ q : Nat, H.size ≤ q → A q) (hel : ∀ x, x < cap → f x ≠ a ∧ ∃ vs, oc D H (f x) ci vs) (hci : vwCl[ci]? = some rr) (hca : (rr.1, "java/lang/Object") ∈ evCast) {v : Nat} {vs : List Value} (hv : oc D H v ci vs) (hva : v ≠ a) : vx_Met l yJx4a65c_add_9ea2d wsJx4a65c_add_9ea2d (rmL 7 1 (capN cap)) (PcE D T dE mi A H [.ref a, .ref v]) (QI A (fun r H1 => r = nI 1 ∧ AL D T dE H1 a H.size (capN cap) (cap + 1) (nu f cap v) ∧ H1.size = H.size + 1 ∧ ∀ q : Nat, q < H.size → q ≠ a → H1[q]? = H[q]?)) (XX A (XN)) 1 (capN cap) A := by
  refine entry (cc := cJx4a65c_add_9ea2d) (maxL := 2) (ret := (some .boolean)) (by decide) rfl (Nat.le_of_ble_eq_true rfl) ?_
  intro p e s m args below meth c hx hb hrt9 hml hown hts hlk hnt hnm hev hS ls hl
  have hown : s.vm.findClass RJx4a65c = some m.cls := hown
  have hK := hev.1
  have hl : lv_has ls 2 [(0, .ref a), (1, .ref v)] := hl
  obtain ⟨hne, hnc, hcap, hc0, mo, fe, ho, hg, hfe⟩ := id hL
  refine lv_aload_n hx hb dJx4a65c_add_9ea2d_0 rfl (lv_at hl 0 rfl) ?_
  refine lv_dup hx hb dJx4a65c_add_9ea2d_1 rfl ?_
  refine x_get (C := RJx4a65c) (TT := TJx4a65c) (N := 3) (ci := 2) (v := .int mo) hx hb hts in_Jx4a65c_add_9ea2d_RJx4a65c hown hK (ho) rfl 0 (by decide) (hts (.fieldLink RJx4a65c 63 "java/util/ArrayList" "modCount" "I") (by decide +kernel)) (u_same (hts (.sameField "java/util/ArrayList" "java/util/AbstractList" "modCount" "I") (by decide +kernel))) rfl dJx4a65c_add_9ea2d_2 ?_
  refine lv_iconst (v := nI 1) hx hb dJx4a65c_add_9ea2d_5 (by decide) ?_
  refine lv_iadd hx hb dJx4a65c_add_9ea2d_6 ?_
  refine x_put (C := RJx4a65c) (TT := TJx4a65c) (N := 3) (ci := 2) (v := .int (mo + (nI 1))) (ty := tyJx4a65c 0) hx hb hts in_Jx4a65c_add_9ea2d_RJx4a65c tyJx4a65c tyJx4a65c_ok nmJx4a65c hown hK hS (ho) hAa rfl 0 (by decide) (hts (.fieldLink RJx4a65c 63 "java/util/ArrayList" "modCount" "I") (by decide +kernel)) (u_same (hts (.sameField "java/util/ArrayList" "java/util/AbstractList" "modCount" "I") (by decide +kernel))) rfl (tyJx4a65c_ok 0 (by decide)) rfl rfl (Nat.le_of_ble_eq_true rfl) dJx4a65c_add_9ea2d_7 (fun H1 locs1 ho1 hz1 hq1 hS => ?_)
  have ho1 : oc D H1 a 2 [.int (mo + (nI 1)), .ref arr, .int (nI cap)] := ho1
  have ho := ho1
  have hg := hg.kept (hq1 _ hne)
  have hL : AL D T dE H1 a arr cap cap f := ⟨hne, hnc, hcap, hc0, _, fe, ho1, hg, hfe⟩
  have hv := hv.kept (hq1 _ hva)
  have hel : ∀ x, x < cap → f x ≠ a ∧ ∃ vs, oc D H1 (f x) ci vs := fun x hx2 => by
    obtain ⟨h8, ws, hw⟩ := hel x hx2
    exact ⟨h8, ws, hw.kept (hq1 _ h8)⟩
  have hAn : ∀ q : Nat, H1.size ≤ q → A q := fun q9 h9 => hAn q9 (by rw [← hz1]; exact h9)
  refine lv_aload_n hx hb dJx4a65c_add_9ea2d_10 rfl (lv_at hl 0 rfl) ?_
  refine lv_aload_n hx hb dJx4a65c_add_9ea2d_11 rfl (lv_at hl 1 rfl) ?_
  refine lv_aload_n hx hb dJx4a65c_add_9ea2d_12 rfl (lv_at hl 0 rfl) ?_
  refine x_get (C := RJx4a65c) (TT := TJx4a65c) (N := 3) (ci := 2) (v := .ref arr) hx hb hts in_Jx4a65c_add_9ea2d_RJx4a65c hown hK (ho1) rfl 1 (by decide) (hts (.fieldLink RJx4a65c 9 "java/util/ArrayList" "elementData" "[Ljava/lang/Object;") (by decide +kernel)) (fun _ h9 => h9) rfl dJx4a65c_add_9ea2d_13 ?_
  refine lv_aload_n hx hb dJx4a65c_add_9ea2d_16 rfl (lv_at hl 0 rfl) ?_
  refine x_get (C := RJx4a65c) (TT := TJx4a65c) (N := 3) (ci := 2) (v := .int (nI cap)) hx hb hts in_Jx4a65c_add_9ea2d_RJx4a65c hown hK (ho1) rfl 2 (by decide) (hts (.fieldLink RJx4a65c 48 "java/util/ArrayList" "size" "I") (by decide +kernel)) (fun _ h9 => h9) rfl dJx4a65c_add_9ea2d_17 ?_
  refine k_vp (k_V (As := [.ref v, .ref arr, .int (nI cap)]) (rest := []) ⟨hx, hb, hml, hown, hts⟩ hev hS (c_addh_grow l hL hcp hAa hAn hel hci hca hv hva) (cwV 3 hts gJx4a65c_add_9ea2d_Jx4a65c_add_72be8 rfl rfl rfl (by decide +kernel) ⟨Nat.le_of_ble_eq_true rfl, Nat.le_of_ble_eq_true rfl⟩) (x_recv hK ((hL.rec).choose_spec) rfl) rfl hl.1 (Nat.le_of_ble_eq_true rfl) dJx4a65c_add_9ea2d_20 (Nat.le_of_ble_eq_true rfl) (by show _ ≤ ((capN cap) : Nat); omega)) hS hnt hlk (fun _ _ h _ => h.elim) (Nat.le_of_ble_eq_true rfl) (by show _ ≤ ((capN cap) : Nat); omega) (fun H2 locs2 hP hz2 hS => ?_)
  obtain ⟨hL9, ez, eq9⟩ := hP
  refine lv_iconst (v := nI 1) hx hb dJx4a65c_add_9ea2d_23 (by decide) ?_
  exact r_z hx hb hrt9 hlk hS (Nat.le_of_ble_eq_true rfl) (by omega) dJx4a65c_add_9ea2d_24 rfl (⟨rfl, by rw [← hz1]; exact hL9, by rw [ez, hz1], fun q9 h9 h8 => (eq9 q9 (by omega) h8).trans (hq1 q9 h8)⟩)
set_option maxRecDepth 100000 in
theorem in_Jx4a65c_rangeCheckForAdd_d00df_RJx4a65c : ∀ w ∈ wsJx4a65c0, w ∈ wsJx4a65c_rangeCheckForAdd_d00df := by decide +kernel
set_option maxHeartbeats 4000000 in
set_option maxRecDepth 100000 in
theorem c_Jx4a65c_rangeCheckForAdd_d00df (l : Launch) {D : va_G} {T : Nat → ClassId} {dE mi : Nat} {A : Nat → Prop} {H : Heap} {a arr cap n : Nat} {f : Nat → Nat} (hL : AL D T dE H a arr cap n f) {i : Nat} (hi : i ≤ n) : vx_Met l yJx4a65c_rangeCheckForAdd_d00df wsJx4a65c_rangeCheckForAdd_d00df (rmL 2 0 0) (PcE D T dE mi A H [.ref a, .int (nI i)]) (QV A (fun H1 => H1 = H)) (XX A (XN)) 0 0 A := by
  refine entry (cc := cJx4a65c_rangeCheckForAdd_d00df) (maxL := 2) (ret := none) (by decide) rfl (Nat.le_of_ble_eq_true rfl) ?_
  intro p e s m args below meth c hx hb hrt9 hml hown hts hlk hnt hnm hev hS ls hl
  have hown : s.vm.findClass RJx4a65c = some m.cls := hown
  have hK := hev.1
  have hl : lv_has ls 2 [(0, .ref a), (1, .int (nI i))] := hl
  obtain ⟨hne, hnc, hcap, hc0, mo, fe, ho, hg, hfe⟩ := id hL
  refine lv_iload_n hx hb dJx4a65c_rangeCheckForAdd_d00df_0 rfl (lv_at hl 1 rfl) ?_
  refine lv_aload_n hx hb dJx4a65c_rangeCheckForAdd_d00df_1 rfl (lv_at hl 0 rfl) ?_
  refine x_get (C := RJx4a65c) (TT := TJx4a65c) (N := 3) (ci := 2) (v := .int (nI n)) hx hb hts in_Jx4a65c_rangeCheckForAdd_d00df_RJx4a65c hown hK (ho) rfl 2 (by decide) (hts (.fieldLink RJx4a65c 48 "java/util/ArrayList" "size" "I") (by decide +kernel)) (fun _ h9 => h9) rfl dJx4a65c_rangeCheckForAdd_d00df_2 ?_
  refine y_icmp_gt hx hb (by omega) (by omega) (tgt := 12) dJx4a65c_rangeCheckForAdd_d00df_5 (by decide) (fun c5 => ?_) (fun c5 => ?_)
  · exact absurd hi (by omega)
  · refine lv_iload_n hx hb dJx4a65c_rangeCheckForAdd_d00df_8 rfl (lv_at hl 1 rfl) ?_
    refine y_if_ge hx hb (by omega) (tgt := 25) dJx4a65c_rangeCheckForAdd_d00df_9 (by decide) (fun c9 => ?_) (fun c9 => ?_)
    · exact r_v hx hb hrt9 hlk hS (Nat.le_of_ble_eq_true rfl) (Nat.le_of_ble_eq_true rfl) dJx4a65c_rangeCheckForAdd_d00df_25 (rfl)
    · exact absurd c9 id
set_option maxRecDepth 100000 in
theorem in_Jx4a65c_add_7a177_RJx4a65c : ∀ w ∈ wsJx4a65c0, w ∈ wsJx4a65c_add_7a177 := by decide +kernel
set_option maxHeartbeats 4000000 in
set_option maxRecDepth 100000 in
theorem c_ins_room (l : Launch) {D : va_G} {T : Nat → ClassId} {dE mi : Nat} {A : Nat → Prop} {H : Heap} {a arr cap n ci : Nat} {f : Nat → Nat} {rr : vw_C} (hL : AL D T dE H a arr cap n f) (hlt : n < cap) (hAa : A a) (hAr : 0 < cap → A arr) (hci : vwCl[ci]? = some rr) (hca : (rr.1, "java/lang/Object") ∈ evCast) {v : Nat} {vs : List Value} (hv : oc D H v ci vs) (hva : v ≠ a) {i : Nat} (hi : i ≤ n) (hvr : v ≠ arr) (hel : ∀ x, x < n → f x ≠ a ∧ ∃ vs, oc D H (f x) ci vs) : vx_Met l yJx4a65c_add_7a177 wsJx4a65c_add_7a177 (rmL 6 0 0) (PcE D T dE mi A H [.ref a, .int (nI i), .ref v]) (QV A (fun H1 => AL D T dE H1 a arr cap (n + 1) (insF f i v) ∧ H1.size = H.size ∧ ∀ q : Nat, q ≠ a → q ≠ arr → H1[q]? = H[q]?)) (XX A (XN)) 0 0 A := by
  refine entry (cc := cJx4a65c_add_7a177) (maxL := 5) (ret := none) (by decide) rfl (Nat.le_of_ble_eq_true rfl) ?_
  intro p e s m args below meth c hx hb hrt9 hml hown hts hlk hnt hnm hev hS ls hl
  have hown : s.vm.findClass RJx4a65c = some m.cls := hown
  have hK := hev.1
  have hl : lv_has ls 5 [(0, .ref a), (1, .int (nI i)), (2, .ref v)] := hl
  obtain ⟨hne, hnc, hcap, hc0, mo, fe, ho, hg, hfe⟩ := id hL
  refine lv_aload_n hx hb dJx4a65c_add_7a177_0 rfl (lv_at hl 0 rfl) ?_
  refine lv_iload_n hx hb dJx4a65c_add_7a177_1 rfl (lv_at hl 1 rfl) ?_
  refine k_vp (k_V (As := [.int (nI i)]) (rest := []) ⟨hx, hb, hml, hown, hts⟩ hev hS (c_Jx4a65c_rangeCheckForAdd_d00df l hL hi) (cwV 1 hts gJx4a65c_add_7a177_Jx4a65c_rangeCheckForAdd_d00df rfl rfl rfl (by decide +kernel) ⟨Nat.le_of_ble_eq_true rfl, Nat.le_of_ble_eq_true rfl⟩) (x_recv hK ((hL.rec).choose_spec) rfl) rfl hl.1 (Nat.le_of_ble_eq_true rfl) dJx4a65c_add_7a177_2 (Nat.le_of_ble_eq_true rfl) (Nat.le_of_ble_eq_true rfl)) hS hnt hlk (fun _ _ h _ => h.elim) (Nat.le_of_ble_eq_true rfl) (Nat.le_of_ble_eq_true rfl) (fun H1 locs1 hP hz1 hS => ?_)
  refine W.widen (k := 0) (n := 0) (Nat.le_refl _) (Nat.le_refl _) ?_
  have eH := hP.symm
  subst eH
  refine lv_aload_n hx hb dJx4a65c_add_7a177_5 rfl (lv_at hl 0 rfl) ?_
  refine lv_dup hx hb dJx4a65c_add_7a177_6 rfl ?_
  refine x_get (C := RJx4a65c) (TT := TJx4a65c) (N := 3) (ci := 2) (v := .int mo) hx hb hts in_Jx4a65c_add_7a177_RJx4a65c hown hK (ho) rfl 0 (by decide) (hts (.fieldLink RJx4a65c 63 "java/util/ArrayList" "modCount" "I") (by decide +kernel)) (u_same (hts (.sameField "java/util/ArrayList" "java/util/AbstractList" "modCount" "I") (by decide +kernel))) rfl dJx4a65c_add_7a177_7 ?_
  refine lv_iconst (v := nI 1) hx hb dJx4a65c_add_7a177_10 (by decide) ?_
  refine lv_iadd hx hb dJx4a65c_add_7a177_11 ?_
  refine x_put (C := RJx4a65c) (TT := TJx4a65c) (N := 3) (ci := 2) (v := .int (mo + (nI 1))) (ty := tyJx4a65c 0) hx hb hts in_Jx4a65c_add_7a177_RJx4a65c tyJx4a65c tyJx4a65c_ok nmJx4a65c hown hK hS (ho) hAa rfl 0 (by decide) (hts (.fieldLink RJx4a65c 63 "java/util/ArrayList" "modCount" "I") (by decide +kernel)) (u_same (hts (.sameField "java/util/ArrayList" "java/util/AbstractList" "modCount" "I") (by decide +kernel))) rfl (tyJx4a65c_ok 0 (by decide)) rfl rfl (Nat.le_of_ble_eq_true rfl) dJx4a65c_add_7a177_12 (fun H2 locs2 ho2 hz2 hq2 hS => ?_)
  have ho2 : oc D H2 a 2 [.int (mo + (nI 1)), .ref arr, .int (nI n)] := ho2
  have ho := ho2
  have hg := hg.kept (hq2 _ hne)
  have hL : AL D T dE H2 a arr cap n f := ⟨hne, hnc, hcap, hc0, _, fe, ho2, hg, hfe⟩
  have hv := hv.kept (hq2 _ hva)
  have hel : ∀ x, x < n → f x ≠ a ∧ ∃ vs, oc D H2 (f x) ci vs := fun x hx2 => by
    obtain ⟨h8, ws, hw⟩ := hel x hx2
    exact ⟨h8, ws, hw.kept (hq2 _ h8)⟩
  refine lv_aload_n hx hb dJx4a65c_add_7a177_15 rfl (lv_at hl 0 rfl) ?_
  refine x_get (C := RJx4a65c) (TT := TJx4a65c) (N := 3) (ci := 2) (v := .int (nI n)) hx hb hts in_Jx4a65c_add_7a177_RJx4a65c hown hK (ho2) rfl 2 (by decide) (hts (.fieldLink RJx4a65c 48 "java/util/ArrayList" "size" "I") (by decide +kernel)) (fun _ h9 => h9) rfl dJx4a65c_add_7a177_16 ?_
  refine lv_dup hx hb dJx4a65c_add_7a177_19 rfl ?_
  refine lv_istore_n (lv' := [(3, .int (nI n)), (0, .ref a), (1, .int (nI i)), (2, .ref v)]) hx hb dJx4a65c_add_7a177_20 rfl hl (by decide) rfl (fun ls hl => ?_)
  refine lv_aload_n hx hb dJx4a65c_add_7a177_21 rfl (lv_at hl 1 rfl) ?_
  refine x_get (C := RJx4a65c) (TT := TJx4a65c) (N := 3) (ci := 2) (v := .ref arr) hx hb hts in_Jx4a65c_add_7a177_RJx4a65c hown hK (ho2) rfl 1 (by decide) (hts (.fieldLink RJx4a65c 9 "java/util/ArrayList" "elementData" "[Ljava/lang/Object;") (by decide +kernel)) (fun _ h9 => h9) rfl dJx4a65c_add_7a177_22 ?_
  refine lv_dup hx hb dJx4a65c_add_7a177_25 rfl ?_
  refine lv_astore (lv' := [(4, .ref arr), (3, .int (nI n)), (0, .ref a), (1, .int (nI i)), (2, .ref v)]) hx hb dJx4a65c_add_7a177_26 hl (by decide) rfl (fun ls hl => ?_)
  refine x_olenA hx hb hev hS hg hc0 dJx4a65c_add_7a177_28 ?_
  refine y_icmp_ne hx hb (by omega) (by omega) (tgt := 38) dJx4a65c_add_7a177_29 (by decide) (fun c29 => ?_) (fun c29 => ?_)
  · refine lv_aload hx hb dJx4a65c_add_7a177_38 (lv_at hl 0 rfl) ?_
    refine lv_iload_n hx hb dJx4a65c_add_7a177_40 rfl (lv_at hl 3 rfl) ?_
    refine lv_aload hx hb dJx4a65c_add_7a177_41 (lv_at hl 0 rfl) ?_
    refine lv_iload_n hx hb dJx4a65c_add_7a177_43 rfl (lv_at hl 3 rfl) ?_
    refine lv_iconst (v := nI 1) hx hb dJx4a65c_add_7a177_44 (by decide) ?_
    refine y_iadd hx hb dJx4a65c_add_7a177_45 ?_
    refine lv_iload_n hx hb dJx4a65c_add_7a177_46 rfl (lv_at hl 1 rfl) ?_
    refine lv_iload_n hx hb dJx4a65c_add_7a177_47 rfl (lv_at hl 3 rfl) ?_
    refine y_isub hx hb (by omega) dJx4a65c_add_7a177_48 ?_
    refine x_top (y := (nI ((n - i)))) (rfl) ?_
    have hl : lv_has ls 5 [(4, .ref arr), (3, .int (nI n)), (0, .ref a), (1, .int (nI i)), (2, .ref v)] := hl
    refine x_cpy (k := (n - i)) hx hb (hml.trans hl.1.symm) hown (hts (.methodLink RJx4a65c 112 arraycopyName) (by decide +kernel)) (hts (.native arraycopyName) (by decide +kernel)) (hts (.static arraycopyName) (by decide +kernel)) (hts (.initialized "java/lang/System") (by decide +kernel)) hK hS (hg.1 (by omega)) (hg.1 (by omega)) (hAr (by omega)) (by omega) (by omega) (by omega) (by omega) (fun x hx2 y hy => by rw [hfe _ (by omega)] at hy; obtain rfl := Option.some.inj hy; obtain ⟨-, vs9, hvs⟩ := hel (i + x) (by omega); exact ⟨vs9, hvs⟩) hci (hev.2.2.2.1 _ hca) (Nat.le_of_ble_eq_true rfl) (Nat.le_of_ble_eq_true rfl) dJx4a65c_add_7a177_49 (fun H3 locs3 hg3 hz3 hq3 hS => ?_)
    have ho := ho.kept (hq3 _ (Ne.symm hne))
    have hv := hv.kept (hq3 _ hvr)
    refine lv_aload hx hb dJx4a65c_add_7a177_52 (lv_at hl 0 rfl) ?_
    refine lv_iload_n hx hb dJx4a65c_add_7a177_54 rfl (lv_at hl 3 rfl) ?_
    refine lv_aload_n hx hb dJx4a65c_add_7a177_55 rfl (lv_at hl 4 rfl) ?_
    refine x_aastC (t0 := 3) (i := i) hx hb hK hS hg3 rfl (hev.2.2.2.1 _ hca) (hAr (by omega)) (by omega) (by omega) hv hci dJx4a65c_add_7a177_56 (fun H4 locs4 hg4 hz4 hq4 hS => ?_)
    have ho : oc D H4 a 2 _ := ho.kept (hq4 _ (Ne.symm hne))
    refine lv_aload_n hx hb dJx4a65c_add_7a177_57 rfl (lv_at hl 2 rfl) ?_
    refine lv_iload_n hx hb dJx4a65c_add_7a177_58 rfl (lv_at hl 1 rfl) ?_
    refine lv_iconst (v := nI 1) hx hb dJx4a65c_add_7a177_59 (by decide) ?_
    refine y_iadd hx hb dJx4a65c_add_7a177_60 ?_
    refine x_put (C := RJx4a65c) (TT := TJx4a65c) (N := 3) (ci := 2) (v := .int (nI (n + 1))) (ty := tyJx4a65c 2) hx hb hts in_Jx4a65c_add_7a177_RJx4a65c tyJx4a65c tyJx4a65c_ok nmJx4a65c hown hK hS (ho) hAa rfl 2 (by decide) (hts (.fieldLink RJx4a65c 48 "java/util/ArrayList" "size" "I") (by decide +kernel)) (fun _ h9 => h9) rfl (tyJx4a65c_ok 2 (by decide)) rfl rfl (Nat.le_of_ble_eq_true rfl) dJx4a65c_add_7a177_61 (fun H5 locs5 ho5 hz5 hq5 hS => ?_)
    have ho5 : oc D H5 a 2 [.int (mo + (nI 1)), .ref arr, .int (nI (n + 1))] := ho5
    exact r_v hx hb hrt9 hlk hS (Nat.le_of_ble_eq_true rfl) (Nat.le_of_ble_eq_true rfl) dJx4a65c_add_7a177_64 (⟨AL.ins hne hlt hi hcap ho5 (hg4.kept (hq5 _ hne)) hfe, by rw [hz5, hz4, hz3, hz2], fun q9 h9 h8 => (hq5 q9 h9).trans ((hq4 q9 h8).trans ((hq3 q9 h8).trans (hq2 q9 h9)))⟩)
  · exact absurd c29 (by omega)
set_option maxHeartbeats 4000000 in
set_option maxRecDepth 100000 in
theorem c_ins_grow (l : Launch) {D : va_G} {T : Nat → ClassId} {dE mi : Nat} {A : Nat → Prop} {H : Heap} {a arr cap ci : Nat} {f : Nat → Nat} {rr : vw_C} (hL : AL D T dE H a arr cap cap f) (hcp : cap < 1000) (hAa : A a) (hAn : ∀ q : Nat, H.size ≤ q → A q) (hel : ∀ x, x < cap → f x ≠ a ∧ ∃ vs, oc D H (f x) ci vs) (hci : vwCl[ci]? = some rr) (hca : (rr.1, "java/lang/Object") ∈ evCast) {v : Nat} {vs : List Value} (hv : oc D H v ci vs) (hva : v ≠ a) {i : Nat} (hi : i ≤ cap) : vx_Met l yJx4a65c_add_7a177 wsJx4a65c_add_7a177 (rmL 6 1 (capN cap)) (PcE D T dE mi A H [.ref a, .int (nI i), .ref v]) (QV A (fun H1 => AL D T dE H1 a H.size (capN cap) (cap + 1) (insF f i v) ∧ H1.size = H.size + 1 ∧ ∀ q : Nat, q < H.size → q ≠ a → H1[q]? = H[q]?)) (XX A (XN)) 1 (capN cap) A := by
  refine entry (cc := cJx4a65c_add_7a177) (maxL := 5) (ret := none) (by decide) rfl (Nat.le_of_ble_eq_true rfl) ?_
  intro p e s m args below meth c hx hb hrt9 hml hown hts hlk hnt hnm hev hS ls hl
  have hown : s.vm.findClass RJx4a65c = some m.cls := hown
  have hK := hev.1
  have hl : lv_has ls 5 [(0, .ref a), (1, .int (nI i)), (2, .ref v)] := hl
  obtain ⟨hne, hnc, hcap, hc0, mo, fe, ho, hg, hfe⟩ := id hL
  refine lv_aload_n hx hb dJx4a65c_add_7a177_0 rfl (lv_at hl 0 rfl) ?_
  refine lv_iload_n hx hb dJx4a65c_add_7a177_1 rfl (lv_at hl 1 rfl) ?_
  refine k_vp (k_V (As := [.int (nI i)]) (rest := []) ⟨hx, hb, hml, hown, hts⟩ hev hS (c_Jx4a65c_rangeCheckForAdd_d00df l hL hi) (cwV 1 hts gJx4a65c_add_7a177_Jx4a65c_rangeCheckForAdd_d00df rfl rfl rfl (by decide +kernel) ⟨Nat.le_of_ble_eq_true rfl, Nat.le_of_ble_eq_true rfl⟩) (x_recv hK ((hL.rec).choose_spec) rfl) rfl hl.1 (Nat.le_of_ble_eq_true rfl) dJx4a65c_add_7a177_2 (Nat.le_of_ble_eq_true rfl) (Nat.le_of_ble_eq_true rfl)) hS hnt hlk (fun _ _ h _ => h.elim) (Nat.le_of_ble_eq_true rfl) (Nat.le_of_ble_eq_true rfl) (fun H1 locs1 hP hz1 hS => ?_)
  refine W.widen (k := 0) (n := 0) (Nat.le_refl _) (Nat.le_refl _) ?_
  have eH := hP.symm
  subst eH
  refine lv_aload_n hx hb dJx4a65c_add_7a177_5 rfl (lv_at hl 0 rfl) ?_
  refine lv_dup hx hb dJx4a65c_add_7a177_6 rfl ?_
  refine x_get (C := RJx4a65c) (TT := TJx4a65c) (N := 3) (ci := 2) (v := .int mo) hx hb hts in_Jx4a65c_add_7a177_RJx4a65c hown hK (ho) rfl 0 (by decide) (hts (.fieldLink RJx4a65c 63 "java/util/ArrayList" "modCount" "I") (by decide +kernel)) (u_same (hts (.sameField "java/util/ArrayList" "java/util/AbstractList" "modCount" "I") (by decide +kernel))) rfl dJx4a65c_add_7a177_7 ?_
  refine lv_iconst (v := nI 1) hx hb dJx4a65c_add_7a177_10 (by decide) ?_
  refine lv_iadd hx hb dJx4a65c_add_7a177_11 ?_
  refine x_put (C := RJx4a65c) (TT := TJx4a65c) (N := 3) (ci := 2) (v := .int (mo + (nI 1))) (ty := tyJx4a65c 0) hx hb hts in_Jx4a65c_add_7a177_RJx4a65c tyJx4a65c tyJx4a65c_ok nmJx4a65c hown hK hS (ho) hAa rfl 0 (by decide) (hts (.fieldLink RJx4a65c 63 "java/util/ArrayList" "modCount" "I") (by decide +kernel)) (u_same (hts (.sameField "java/util/ArrayList" "java/util/AbstractList" "modCount" "I") (by decide +kernel))) rfl (tyJx4a65c_ok 0 (by decide)) rfl rfl (Nat.le_of_ble_eq_true rfl) dJx4a65c_add_7a177_12 (fun H2 locs2 ho2 hz2 hq2 hS => ?_)
  have ho2 : oc D H2 a 2 [.int (mo + (nI 1)), .ref arr, .int (nI cap)] := ho2
  have ho := ho2
  have hg := hg.kept (hq2 _ hne)
  have hL : AL D T dE H2 a arr cap cap f := ⟨hne, hnc, hcap, hc0, _, fe, ho2, hg, hfe⟩
  have hv := hv.kept (hq2 _ hva)
  have hel : ∀ x, x < cap → f x ≠ a ∧ ∃ vs, oc D H2 (f x) ci vs := fun x hx2 => by
    obtain ⟨h8, ws, hw⟩ := hel x hx2
    exact ⟨h8, ws, hw.kept (hq2 _ h8)⟩
  have hAn : ∀ q : Nat, H2.size ≤ q → A q := fun q9 h9 => hAn q9 (by rw [← hz2]; exact h9)
  have hv0 := hv
  refine lv_aload_n hx hb dJx4a65c_add_7a177_15 rfl (lv_at hl 0 rfl) ?_
  refine x_get (C := RJx4a65c) (TT := TJx4a65c) (N := 3) (ci := 2) (v := .int (nI cap)) hx hb hts in_Jx4a65c_add_7a177_RJx4a65c hown hK (ho2) rfl 2 (by decide) (hts (.fieldLink RJx4a65c 48 "java/util/ArrayList" "size" "I") (by decide +kernel)) (fun _ h9 => h9) rfl dJx4a65c_add_7a177_16 ?_
  refine lv_dup hx hb dJx4a65c_add_7a177_19 rfl ?_
  refine lv_istore_n (lv' := [(3, .int (nI cap)), (0, .ref a), (1, .int (nI i)), (2, .ref v)]) hx hb dJx4a65c_add_7a177_20 rfl hl (by decide) rfl (fun ls hl => ?_)
  refine lv_aload_n hx hb dJx4a65c_add_7a177_21 rfl (lv_at hl 1 rfl) ?_
  refine x_get (C := RJx4a65c) (TT := TJx4a65c) (N := 3) (ci := 2) (v := .ref arr) hx hb hts in_Jx4a65c_add_7a177_RJx4a65c hown hK (ho2) rfl 1 (by decide) (hts (.fieldLink RJx4a65c 9 "java/util/ArrayList" "elementData" "[Ljava/lang/Object;") (by decide +kernel)) (fun _ h9 => h9) rfl dJx4a65c_add_7a177_22 ?_
  refine lv_dup hx hb dJx4a65c_add_7a177_25 rfl ?_
  refine lv_astore (lv' := [(4, .ref arr), (3, .int (nI cap)), (0, .ref a), (1, .int (nI i)), (2, .ref v)]) hx hb dJx4a65c_add_7a177_26 hl (by decide) rfl (fun ls hl => ?_)
  refine x_olenA hx hb hev hS hg hc0 dJx4a65c_add_7a177_28 ?_
  refine y_icmp_ne hx hb (by omega) (by omega) (tgt := 38) dJx4a65c_add_7a177_29 (by decide) (fun c29 => ?_) (fun c29 => ?_)
  · exact absurd rfl c29
  · refine lv_aload_n hx hb dJx4a65c_add_7a177_32 rfl (lv_at hl 2 rfl) ?_
    refine k_qp (k_V (As := []) (rest := []) ⟨hx, hb, hml, hown, hts⟩ hev hS (c_Jx4a65c_grow_d5877 l hL hcp hAa hAn hel hci hca) (cwV 0 hts gJx4a65c_add_7a177_Jx4a65c_grow_d5877 rfl rfl rfl (by decide +kernel) ⟨Nat.le_of_ble_eq_true rfl, Nat.le_of_ble_eq_true rfl⟩) (x_recv hK ((hL.rec).choose_spec) rfl) rfl hl.1 (Nat.le_of_ble_eq_true rfl) dJx4a65c_add_7a177_33 (Nat.le_of_ble_eq_true rfl) (by show _ ≤ ((capN cap) : Nat); omega)) hS hnt hlk (fun _ _ h _ => h.elim) (Nat.le_of_ble_eq_true rfl) (by show _ ≤ ((capN cap) : Nat); omega) (fun rq3_ H3 locs3 hP hz3 hS => ?_)
    obtain ⟨er, ⟨mo1, fe2, ho, hg, hfe2⟩, ez, eq9⟩ := hP
    refine x_tov (y := .ref H2.size) (by rw [er]; rfl) ?_
    have hv := hv.kept (eq9 _ hv.lt hva)
    have hne2 : H2.size ≠ a := by have h9 := hL.lt.1; omega
    have hcN := capN_lt hcp
    have hcg := capN_gt (cap := cap)
    have hel : ∀ x, x < cap → f x ≠ a ∧ ∃ vs, oc D H3 (f x) ci vs := fun x hx2 => by
      obtain ⟨h8, ws, hw⟩ := hel x hx2
      exact ⟨h8, ws, hw.kept (eq9 _ hw.lt h8)⟩
    have hvn : v ≠ H2.size := by have h9 := hv0.lt; omega
    refine lv_astore (lv' := [(4, .ref H2.size), (3, .int (nI cap)), (0, .ref a), (1, .int (nI i)), (2, .ref v)]) hx hb dJx4a65c_add_7a177_36 hl (by decide) rfl (fun ls hl => ?_)
    refine lv_aload hx hb dJx4a65c_add_7a177_38 (lv_at hl 0 rfl) ?_
    refine lv_iload_n hx hb dJx4a65c_add_7a177_40 rfl (lv_at hl 3 rfl) ?_
    refine lv_aload hx hb dJx4a65c_add_7a177_41 (lv_at hl 0 rfl) ?_
    refine lv_iload_n hx hb dJx4a65c_add_7a177_43 rfl (lv_at hl 3 rfl) ?_
    refine lv_iconst (v := nI 1) hx hb dJx4a65c_add_7a177_44 (by decide) ?_
    refine y_iadd hx hb dJx4a65c_add_7a177_45 ?_
    refine lv_iload_n hx hb dJx4a65c_add_7a177_46 rfl (lv_at hl 1 rfl) ?_
    refine lv_iload_n hx hb dJx4a65c_add_7a177_47 rfl (lv_at hl 3 rfl) ?_
    refine y_isub hx hb (by omega) dJx4a65c_add_7a177_48 ?_
    refine x_top (y := (nI ((cap - i)))) (rfl) ?_
    refine x_cpy (k := (cap - i)) hx hb (hml.trans hl.1.symm) hown (hts (.methodLink RJx4a65c 112 arraycopyName) (by decide +kernel)) (hts (.native arraycopyName) (by decide +kernel)) (hts (.static arraycopyName) (by decide +kernel)) (hts (.initialized "java/lang/System") (by decide +kernel)) hK hS hg hg (hAn _ (Nat.le_refl _)) (by omega) (by omega) (by omega) (by omega) (fun x hx2 y hy => by rw [hfe2 _ (by omega)] at hy; obtain rfl := Option.some.inj hy; obtain ⟨-, vs9, hvs⟩ := hel (i + x) (by omega); exact ⟨vs9, hvs⟩) hci (hev.2.2.2.1 _ hca) (Nat.le_of_ble_eq_true rfl) (Nat.le_of_ble_eq_true rfl) dJx4a65c_add_7a177_49 (fun H4 locs4 hg4 hz4 hq4 hS => ?_)
    have ho := ho.kept (hq4 _ (Ne.symm hne2))
    have hv := hv.kept (hq4 _ hvn)
    refine lv_aload hx hb dJx4a65c_add_7a177_52 (lv_at hl 0 rfl) ?_
    refine lv_iload_n hx hb dJx4a65c_add_7a177_54 rfl (lv_at hl 3 rfl) ?_
    refine lv_aload_n hx hb dJx4a65c_add_7a177_55 rfl (lv_at hl 4 rfl) ?_
    refine x_aastC (t0 := 3) (i := i) hx hb hK hS hg4 rfl (hev.2.2.2.1 _ hca) (hAn _ (Nat.le_refl _)) (by omega) (by omega) hv hci dJx4a65c_add_7a177_56 (fun H5 locs5 hg5 hz5 hq5 hS => ?_)
    have ho : oc D H5 a 2 _ := ho.kept (hq5 _ (Ne.symm hne2))
    refine lv_aload_n hx hb dJx4a65c_add_7a177_57 rfl (lv_at hl 2 rfl) ?_
    refine lv_iload_n hx hb dJx4a65c_add_7a177_58 rfl (lv_at hl 1 rfl) ?_
    refine lv_iconst (v := nI 1) hx hb dJx4a65c_add_7a177_59 (by decide) ?_
    refine y_iadd hx hb dJx4a65c_add_7a177_60 ?_
    refine x_put (C := RJx4a65c) (TT := TJx4a65c) (N := 3) (ci := 2) (v := .int (nI (cap + 1))) (ty := tyJx4a65c 2) hx hb hts in_Jx4a65c_add_7a177_RJx4a65c tyJx4a65c tyJx4a65c_ok nmJx4a65c hown hK hS (ho) hAa rfl 2 (by decide) (hts (.fieldLink RJx4a65c 48 "java/util/ArrayList" "size" "I") (by decide +kernel)) (fun _ h9 => h9) rfl (tyJx4a65c_ok 2 (by decide)) rfl rfl (Nat.le_of_ble_eq_true rfl) dJx4a65c_add_7a177_61 (fun H6 locs6 ho6 hz6 hq6 hS => ?_)
    have ho6 : oc D H6 a 2 [.int mo1, .ref H2.size, .int (nI (cap + 1))] := ho6
    exact r_v hx hb hrt9 hlk hS (Nat.le_of_ble_eq_true rfl) (by omega) dJx4a65c_add_7a177_64 (⟨by rw [← hz2]; exact AL.ins hne2 hcg hi (by omega) ho6 (hg5.kept (hq6 _ hne2)) hfe2, by rw [hz6, hz5, hz4, ez, hz2], fun q9 h9 h8 => (hq6 q9 h8).trans ((hq5 q9 (by omega)).trans ((hq4 q9 (by omega)).trans ((eq9 q9 (by omega) h8).trans (hq2 q9 h8))))⟩)
set_option maxRecDepth 100000 in
theorem in_Jx4a65c_set_bcc79_RJx4a65c : ∀ w ∈ wsJx4a65c0, w ∈ wsJx4a65c_set_bcc79 := by decide +kernel
set_option maxHeartbeats 4000000 in
set_option maxRecDepth 100000 in
theorem c_Jx4a65c_set_bcc79 (l : Launch) {D : va_G} {T : Nat → ClassId} {dE mi : Nat} {A : Nat → Prop} {H : Heap} {a arr cap n ci : Nat} {f : Nat → Nat} {rr : vw_C} (hL : AL D T dE H a arr cap n f) {i : Nat} (hi : i < n) (hAr : 0 < cap → A arr) (hci : vwCl[ci]? = some rr) (hca : (rr.1, "java/lang/Object") ∈ evCast) {v : Nat} {vs : List Value} (hv : oc D H v ci vs) : vx_Met l yJx4a65c_set_bcc79 wsJx4a65c_set_bcc79 (rmL 2 0 0) (PcE D T dE mi A H [.ref a, .int (nI i), .ref v]) (QQ A (fun r H1 => r = some (f i) ∧ AL D T dE H1 a arr cap n (nu f i v) ∧ H1.size = H.size ∧ ∀ q : Nat, q ≠ arr → H1[q]? = H[q]?)) (XX A (XN)) 0 0 A := by
  refine entry (cc := cJx4a65c_set_bcc79) (maxL := 4) (ret := (some (.object "java/lang/Object"))) (by decide) rfl (Nat.le_of_ble_eq_true rfl) ?_
  intro p e s m args below meth c hx hb hrt9 hml hown hts hlk hnt hnm hev hS ls hl
  have hown : s.vm.findClass RJx4a65c = some m.cls := hown
  have hK := hev.1
  have hl : lv_has ls 4 [(0, .ref a), (1, .int (nI i)), (2, .ref v)] := hl
  obtain ⟨hne, hnc, hcap, hc0, mo, fe, ho, hg, hfe⟩ := id hL
  refine lv_iload_n hx hb dJx4a65c_set_bcc79_0 rfl (lv_at hl 1 rfl) ?_
  refine lv_aload_n hx hb dJx4a65c_set_bcc79_1 rfl (lv_at hl 0 rfl) ?_
  refine x_get (C := RJx4a65c) (TT := TJx4a65c) (N := 3) (ci := 2) (v := .int (nI n)) hx hb hts in_Jx4a65c_set_bcc79_RJx4a65c hown hK (ho) rfl 2 (by decide) (hts (.fieldLink RJx4a65c 48 "java/util/ArrayList" "size" "I") (by decide +kernel)) (fun _ h9 => h9) rfl dJx4a65c_set_bcc79_2 ?_
  refine k_ip (k_S (As := [.int (nI i), .int (nI n)]) (rest := []) ⟨hx, hb, hml, hown, hts⟩ hev hS (c_J15_checkIndex_7cf53 l hi (by omega)) (va_cwS 2 hts gJx4a65c_set_bcc79_J15_checkIndex_7cf53 rfl rfl rfl (by decide +kernel) ⟨Nat.le_of_ble_eq_true rfl, Nat.le_of_ble_eq_true rfl⟩) rfl hl.1 (Nat.le_of_ble_eq_true rfl) dJx4a65c_set_bcc79_5 (Nat.le_of_ble_eq_true rfl) (Nat.le_of_ble_eq_true rfl)) hS hnt hlk (fun _ _ h _ => h.elim) (Nat.le_of_ble_eq_true rfl) (Nat.le_of_ble_eq_true rfl) (fun rq1_ H1 locs1 hP hz1 hS => ?_)
  refine W.widen (k := 0) (n := 0) (Nat.le_refl _) (Nat.le_refl _) ?_
  obtain ⟨eH, er⟩ := hP
  have eH := eH.symm
  subst eH
  refine lv_pop hx hb dJx4a65c_set_bcc79_8 rfl ?_
  refine lv_aload_n hx hb dJx4a65c_set_bcc79_9 rfl (lv_at hl 0 rfl) ?_
  refine lv_iload_n hx hb dJx4a65c_set_bcc79_10 rfl (lv_at hl 1 rfl) ?_
  refine k_qp (k_V (As := [.int (nI i)]) (rest := []) ⟨hx, hb, hml, hown, hts⟩ hev hS (c_Jx4a65c_elementData_915e3 l hL hi) (cwV 1 hts gJx4a65c_set_bcc79_Jx4a65c_elementData_915e3 rfl rfl rfl (by decide +kernel) ⟨Nat.le_of_ble_eq_true rfl, Nat.le_of_ble_eq_true rfl⟩) (x_recv hK ((hL.rec).choose_spec) rfl) rfl hl.1 (Nat.le_of_ble_eq_true rfl) dJx4a65c_set_bcc79_11 (Nat.le_of_ble_eq_true rfl) (Nat.le_of_ble_eq_true rfl)) hS hnt hlk (fun _ _ h _ => h.elim) (Nat.le_of_ble_eq_true rfl) (Nat.le_of_ble_eq_true rfl) (fun rq2_ H2 locs2 hP hz2 hS => ?_)
  refine W.widen (k := 0) (n := 0) (Nat.le_refl _) (Nat.le_refl _) ?_
  obtain ⟨eH2, er2⟩ := hP
  have eH2 := eH2.symm
  subst eH2
  refine y_astore_n (lv' := [(3, va_rf rq2_), (0, .ref a), (1, .int (nI i)), (2, .ref v)]) hx hb dJx4a65c_set_bcc79_14 rfl hl (by decide) rfl (fun ls hl => ?_)
  refine lv_aload_n hx hb dJx4a65c_set_bcc79_15 rfl (lv_at hl 1 rfl) ?_
  refine x_get (C := RJx4a65c) (TT := TJx4a65c) (N := 3) (ci := 2) (v := .ref arr) hx hb hts in_Jx4a65c_set_bcc79_RJx4a65c hown hK (ho) rfl 1 (by decide) (hts (.fieldLink RJx4a65c 9 "java/util/ArrayList" "elementData" "[Ljava/lang/Object;") (by decide +kernel)) (fun _ h9 => h9) rfl dJx4a65c_set_bcc79_16 ?_
  refine lv_iload_n hx hb dJx4a65c_set_bcc79_19 rfl (lv_at hl 2 rfl) ?_
  refine lv_aload_n hx hb dJx4a65c_set_bcc79_20 rfl (lv_at hl 3 rfl) ?_
  refine x_aastC (t0 := 3) (i := i) hx hb hK hS (hg.1 (by omega)) rfl (hev.2.2.2.1 _ hca) (hAr (by omega)) (by omega) (by omega) hv hci dJx4a65c_set_bcc79_21 (fun H3 locs3 hg3 hz3 hq3 hS => ?_)
  refine y_aload_n hx hb dJx4a65c_set_bcc79_22 rfl (lv_at hl 0 rfl) ?_
  exact r_q (r := rq2_) hx hb hrt9 (Or.inl ⟨_, rfl⟩) hlk hS (Nat.le_of_ble_eq_true rfl) (Nat.le_of_ble_eq_true rfl) dJx4a65c_set_bcc79_23 (⟨er2, AL.setf hne hnc hcap hc0 (ho.kept (hq3 _ (Ne.symm hne))) hg3 hfe, hz3, hq3⟩)
set_option maxRecDepth 100000 in
theorem in_Jx4a65c_fastRemove_b59b0_RJx4a65c : ∀ w ∈ wsJx4a65c0, w ∈ wsJx4a65c_fastRemove_b59b0 := by decide +kernel
set_option maxHeartbeats 4000000 in
set_option maxRecDepth 100000 in
theorem c_Jx4a65c_fastRemove_b59b0 (l : Launch) {D : va_G} {T : Nat → ClassId} {dE mi : Nat} {A : Nat → Prop} {H : Heap} {a arr cap i : Nat} {f : Nat → Nat} (hL : AL D T dE H a arr cap (i + 1) f) (hAa : A a) (hAr : 0 < cap → A arr) : vx_Met l yJx4a65c_fastRemove_b59b0 wsJx4a65c_fastRemove_b59b0 (rmL 2 0 0) (PcE D T dE mi A H [.ref a, .ref arr, .int (nI i)]) (QV A (fun H1 => AL D T dE H1 a arr cap i f ∧ H1.size = H.size ∧ ∀ q : Nat, q ≠ a → q ≠ arr → H1[q]? = H[q]?)) (XX A (XN)) 0 0 A := by
  refine entry (cc := cJx4a65c_fastRemove_b59b0) (maxL := 4) (ret := none) (by decide) rfl (Nat.le_of_ble_eq_true rfl) ?_
  intro p e s m args below meth c hx hb hrt9 hml hown hts hlk hnt hnm hev hS ls hl
  have hown : s.vm.findClass RJx4a65c = some m.cls := hown
  have hK := hev.1
  have hl : lv_has ls 4 [(0, .ref a), (1, .ref arr), (2, .int (nI i))] := hl
  obtain ⟨hne, hnc, hcap, hc0, mo, fe, ho, hg, hfe⟩ := id hL
  refine lv_aload_n hx hb dJx4a65c_fastRemove_b59b0_0 rfl (lv_at hl 0 rfl) ?_
  refine lv_dup hx hb dJx4a65c_fastRemove_b59b0_1 rfl ?_
  refine x_get (C := RJx4a65c) (TT := TJx4a65c) (N := 3) (ci := 2) (v := .int mo) hx hb hts in_Jx4a65c_fastRemove_b59b0_RJx4a65c hown hK (ho) rfl 0 (by decide) (hts (.fieldLink RJx4a65c 63 "java/util/ArrayList" "modCount" "I") (by decide +kernel)) (u_same (hts (.sameField "java/util/ArrayList" "java/util/AbstractList" "modCount" "I") (by decide +kernel))) rfl dJx4a65c_fastRemove_b59b0_2 ?_
  refine lv_iconst (v := nI 1) hx hb dJx4a65c_fastRemove_b59b0_5 (by decide) ?_
  refine lv_iadd hx hb dJx4a65c_fastRemove_b59b0_6 ?_
  refine x_put (C := RJx4a65c) (TT := TJx4a65c) (N := 3) (ci := 2) (v := .int (mo + (nI 1))) (ty := tyJx4a65c 0) hx hb hts in_Jx4a65c_fastRemove_b59b0_RJx4a65c tyJx4a65c tyJx4a65c_ok nmJx4a65c hown hK hS (ho) hAa rfl 0 (by decide) (hts (.fieldLink RJx4a65c 63 "java/util/ArrayList" "modCount" "I") (by decide +kernel)) (u_same (hts (.sameField "java/util/ArrayList" "java/util/AbstractList" "modCount" "I") (by decide +kernel))) rfl (tyJx4a65c_ok 0 (by decide)) rfl rfl (Nat.le_of_ble_eq_true rfl) dJx4a65c_fastRemove_b59b0_7 (fun H1 locs1 ho1 hz1 hq1 hS => ?_)
  have ho1 : oc D H1 a 2 [.int (mo + (nI 1)), .ref arr, .int (nI (i + 1))] := ho1
  have hg := hg.kept (hq1 _ hne)
  refine lv_aload_n hx hb dJx4a65c_fastRemove_b59b0_10 rfl (lv_at hl 0 rfl) ?_
  refine x_get (C := RJx4a65c) (TT := TJx4a65c) (N := 3) (ci := 2) (v := .int (nI (i + 1))) hx hb hts in_Jx4a65c_fastRemove_b59b0_RJx4a65c hown hK (ho1) rfl 2 (by decide) (hts (.fieldLink RJx4a65c 48 "java/util/ArrayList" "size" "I") (by decide +kernel)) (fun _ h9 => h9) rfl dJx4a65c_fastRemove_b59b0_11 ?_
  refine lv_iconst (v := nI 1) hx hb dJx4a65c_fastRemove_b59b0_14 (by decide) ?_
  refine y_isub hx hb (by omega) dJx4a65c_fastRemove_b59b0_15 ?_
  refine x_top (y := (nI i)) (by rw [Nat.add_sub_cancel]) ?_
  refine lv_dup hx hb dJx4a65c_fastRemove_b59b0_16 rfl ?_
  refine lv_istore_n (lv' := [(3, .int (nI i)), (0, .ref a), (1, .ref arr), (2, .int (nI i))]) hx hb dJx4a65c_fastRemove_b59b0_17 rfl hl (by decide) rfl (fun ls hl => ?_)
  refine lv_iload_n hx hb dJx4a65c_fastRemove_b59b0_18 rfl (lv_at hl 3 rfl) ?_
  refine y_icmp_le hx hb (by omega) (by omega) (tgt := 34) dJx4a65c_fastRemove_b59b0_19 (by decide) (fun c19 => ?_) (fun c19 => ?_)
  · refine lv_aload_n hx hb dJx4a65c_fastRemove_b59b0_34 rfl (lv_at hl 2 rfl) ?_
    refine lv_aload_n hx hb dJx4a65c_fastRemove_b59b0_35 rfl (lv_at hl 1 rfl) ?_
    refine lv_iload_n hx hb dJx4a65c_fastRemove_b59b0_36 rfl (lv_at hl 0 rfl) ?_
    refine lv_dup_x1 hx hb dJx4a65c_fastRemove_b59b0_37 rfl rfl ?_
    refine x_put (C := RJx4a65c) (TT := TJx4a65c) (N := 3) (ci := 2) (v := .int (nI i)) (ty := tyJx4a65c 2) hx hb hts in_Jx4a65c_fastRemove_b59b0_RJx4a65c tyJx4a65c tyJx4a65c_ok nmJx4a65c hown hK hS (ho1) hAa rfl 2 (by decide) (hts (.fieldLink RJx4a65c 48 "java/util/ArrayList" "size" "I") (by decide +kernel)) (fun _ h9 => h9) rfl (tyJx4a65c_ok 2 (by decide)) rfl rfl (Nat.le_of_ble_eq_true rfl) dJx4a65c_fastRemove_b59b0_38 (fun H2 locs2 ho2 hz2 hq2 hS => ?_)
    have ho2 : oc D H2 a 2 [.int (mo + (nI 1)), .ref arr, .int (nI i)] := ho2
    have hg := hg.kept (hq2 _ hne)
    refine lv_null hx hb dJx4a65c_fastRemove_b59b0_41 ?_
    refine x_aastN (t0 := 3) (i := i) hx hb hK hS (hg.1 (by omega)) rfl (hAr (by omega)) (by omega) (by omega) dJx4a65c_fastRemove_b59b0_42 (fun H3 locs3 hg3 hz3 hq3 hS => ?_)
    exact r_v hx hb hrt9 hlk hS (Nat.le_of_ble_eq_true rfl) (Nat.le_of_ble_eq_true rfl) dJx4a65c_fastRemove_b59b0_43 (⟨AL.cut hne (by omega) hcap (ho2.kept (hq3 _ (Ne.symm hne))) hg3 hfe, by rw [hz3, hz2, hz1], fun q9 h9 h8 => (hq3 q9 h8).trans ((hq2 q9 h9).trans (hq1 q9 h9))⟩)
  · exact absurd c19 (by omega)
set_option maxRecDepth 100000 in
theorem in_Jx4a65c_remove_915e3_RJx4a65c : ∀ w ∈ wsJx4a65c0, w ∈ wsJx4a65c_remove_915e3 := by decide +kernel
set_option maxHeartbeats 4000000 in
set_option maxRecDepth 100000 in
theorem c_Jx4a65c_remove_915e3 (l : Launch) {D : va_G} {T : Nat → ClassId} {dE mi : Nat} {A : Nat → Prop} {H : Heap} {a arr cap i : Nat} {f : Nat → Nat} (hL : AL D T dE H a arr cap (i + 1) f) (hAa : A a) (hAr : 0 < cap → A arr) : vx_Met l yJx4a65c_remove_915e3 wsJx4a65c_remove_915e3 (rmL 3 0 0) (PcE D T dE mi A H [.ref a, .int (nI i)]) (QQ A (fun r H1 => r = some (f i) ∧ AL D T dE H1 a arr cap i f ∧ H1.size = H.size ∧ ∀ q : Nat, q ≠ a → q ≠ arr → H1[q]? = H[q]?)) (XX A (XN)) 0 0 A := by
  refine entry (cc := cJx4a65c_remove_915e3) (maxL := 4) (ret := (some (.object "java/lang/Object"))) (by decide) rfl (Nat.le_of_ble_eq_true rfl) ?_
  intro p e s m args below meth c hx hb hrt9 hml hown hts hlk hnt hnm hev hS ls hl
  have hown : s.vm.findClass RJx4a65c = some m.cls := hown
  have hK := hev.1
  have hl : lv_has ls 4 [(0, .ref a), (1, .int (nI i))] := hl
  obtain ⟨hne, hnc, hcap, hc0, mo, fe, ho, hg, hfe⟩ := id hL
  refine lv_iload_n hx hb dJx4a65c_remove_915e3_0 rfl (lv_at hl 1 rfl) ?_
  refine lv_aload_n hx hb dJx4a65c_remove_915e3_1 rfl (lv_at hl 0 rfl) ?_
  refine x_get (C := RJx4a65c) (TT := TJx4a65c) (N := 3) (ci := 2) (v := .int (nI (i + 1))) hx hb hts in_Jx4a65c_remove_915e3_RJx4a65c hown hK (ho) rfl 2 (by decide) (hts (.fieldLink RJx4a65c 48 "java/util/ArrayList" "size" "I") (by decide +kernel)) (fun _ h9 => h9) rfl dJx4a65c_remove_915e3_2 ?_
  refine k_ip (k_S (As := [.int (nI i), .int (nI (i + 1))]) (rest := []) ⟨hx, hb, hml, hown, hts⟩ hev hS (c_J15_checkIndex_7cf53 l (Nat.lt_succ_self i) (by omega)) (va_cwS 2 hts gJx4a65c_remove_915e3_J15_checkIndex_7cf53 rfl rfl rfl (by decide +kernel) ⟨Nat.le_of_ble_eq_true rfl, Nat.le_of_ble_eq_true rfl⟩) rfl hl.1 (Nat.le_of_ble_eq_true rfl) dJx4a65c_remove_915e3_5 (Nat.le_of_ble_eq_true rfl) (Nat.le_of_ble_eq_true rfl)) hS hnt hlk (fun _ _ h _ => h.elim) (Nat.le_of_ble_eq_true rfl) (Nat.le_of_ble_eq_true rfl) (fun rq1_ H1 locs1 hP hz1 hS => ?_)
  refine W.widen (k := 0) (n := 0) (Nat.le_refl _) (Nat.le_refl _) ?_
  obtain ⟨eH, er⟩ := hP
  have eH := eH.symm
  subst eH
  refine lv_pop hx hb dJx4a65c_remove_915e3_8 rfl ?_
  refine lv_aload_n hx hb dJx4a65c_remove_915e3_9 rfl (lv_at hl 0 rfl) ?_
  refine x_get (C := RJx4a65c) (TT := TJx4a65c) (N := 3) (ci := 2) (v := .ref arr) hx hb hts in_Jx4a65c_remove_915e3_RJx4a65c hown hK (ho) rfl 1 (by decide) (hts (.fieldLink RJx4a65c 9 "java/util/ArrayList" "elementData" "[Ljava/lang/Object;") (by decide +kernel)) (fun _ h9 => h9) rfl dJx4a65c_remove_915e3_10 ?_
  refine lv_astore_n (lv' := [(2, .ref arr), (0, .ref a), (1, .int (nI i))]) hx hb dJx4a65c_remove_915e3_13 rfl hl (by decide) rfl (fun ls hl => ?_)
  refine lv_aload_n hx hb dJx4a65c_remove_915e3_14 rfl (lv_at hl 0 rfl) ?_
  refine lv_iload_n hx hb dJx4a65c_remove_915e3_15 rfl (lv_at hl 2 rfl) ?_
  refine x_oald hx hb hK (hg.1 (by omega)) (i := i) (by omega) (by omega) dJx4a65c_remove_915e3_16 ?_
  refine y_astore_n (lv' := [(3, va_rf ((fe i))), (2, .ref arr), (0, .ref a), (1, .int (nI i))]) hx hb dJx4a65c_remove_915e3_17 rfl hl (by decide) rfl (fun ls hl => ?_)
  refine lv_aload_n hx hb dJx4a65c_remove_915e3_18 rfl (lv_at hl 2 rfl) ?_
  refine lv_aload_n hx hb dJx4a65c_remove_915e3_19 rfl (lv_at hl 1 rfl) ?_
  refine lv_iload_n hx hb dJx4a65c_remove_915e3_20 rfl (lv_at hl 3 rfl) ?_
  refine k_vp (k_V (As := [.ref arr, .int (nI i)]) (rest := []) ⟨hx, hb, hml, hown, hts⟩ hev hS (c_Jx4a65c_fastRemove_b59b0 l hL hAa hAr) (cwV 2 hts gJx4a65c_remove_915e3_Jx4a65c_fastRemove_b59b0 rfl rfl rfl (by decide +kernel) ⟨Nat.le_of_ble_eq_true rfl, Nat.le_of_ble_eq_true rfl⟩) (x_recv hK ((hL.rec).choose_spec) rfl) rfl hl.1 (Nat.le_of_ble_eq_true rfl) dJx4a65c_remove_915e3_21 (Nat.le_of_ble_eq_true rfl) (Nat.le_of_ble_eq_true rfl)) hS hnt hlk (fun _ _ h _ => h.elim) (Nat.le_of_ble_eq_true rfl) (Nat.le_of_ble_eq_true rfl) (fun H2 locs2 hP hz2 hS => ?_)
  refine W.widen (k := 0) (n := 0) (Nat.le_refl _) (Nat.le_refl _) ?_
  have hP9 := hP
  refine y_aload_n hx hb dJx4a65c_remove_915e3_24 rfl (lv_at hl 0 rfl) ?_
  exact r_q (r := (fe i)) hx hb hrt9 (Or.inl ⟨_, rfl⟩) hlk hS (Nat.le_of_ble_eq_true rfl) (Nat.le_of_ble_eq_true rfl) dJx4a65c_remove_915e3_25 (⟨hfe i (Nat.lt_succ_self i), hP9⟩)
