theorem capN_gt {cap : Nat} : cap < capN cap := by
  unfold capN
  split
  · omega
  · omega
theorem max_nI {a b : Nat} (ha : a < 2 ^ 31) (hb : b < 2 ^ 31) : (if nI a < nI b then nI b else nI a) = nI (max a b) := by
  by_cases h : a < b
  · rw [if_pos (nI_lt h hb), Nat.max_eq_right (Nat.le_of_lt h)]
  · rw [if_neg (nI_nlt (Nat.le_of_not_lt h) ha), Nat.max_eq_left (Nat.le_of_not_lt h)]
theorem shr1 {n : Nat} (h : n < 2 ^ 31) : nI n >>> (nI 1 &&& 31) = nI (n / 2) := pk_shrN h (nI 1 &&& 31) 1 (by decide)
theorem min_nI {a b : Nat} (h : a ≤ b) (hb : b < 2 ^ 31) : (if nI b < nI a then nI b else nI a) = nI a := if_neg (nI_nlt h hb)
/-- an element put, or put between -/
def insF (f : Nat → Nat) (i v : Nat) : Nat → Nat := fun j => if j < i then f j else if j = i then v else f (j - 1)
def delF (f : Nat → Nat) (i : Nat) : Nat → Nat := fun j => if j < i then f j else f (j + 1)
set_option maxHeartbeats 4000000 in
set_option maxRecDepth 100000 in
theorem c_J8_newLength_cabcc (l : Launch) {D : va_G} {T : Nat → ClassId} {dE mi : Nat} {A : Nat → Prop} {H : Heap} {a1 a2 a3 : Nat} (h1 : a1 < 2 ^ 29) (h2 : a2 < 2 ^ 29) (h3 : a3 < 2 ^ 29) (h0 : 0 < max a2 a3) : vx_Met l yJ8_newLength_cabcc wsJ8_newLength_cabcc (rmL 2 0 0) (PcE D T dE mi A H [.int (nI a1), .int (nI a2), .int (nI a3)]) (QI A (fun r H1 => H1 = H ∧ r = nI (a1 + max a2 a3))) (XX A (XN)) 0 0 A := by
  refine entry (cc := cJ8_newLength_cabcc) (maxL := 4) (ret := (some .int)) (by decide) rfl (Nat.le_of_ble_eq_true rfl) ?_
  intro p e s m args below meth c hx hb hrt9 hml hown hts hlk hnt hnm hev hS ls hl
  have hown : s.vm.findClass RJ8 = some m.cls := hown
  have hK := hev.1
  have hl : lv_has ls 4 [(0, .int (nI a1)), (1, .int (nI a2)), (2, .int (nI a3))] := hl
  refine lv_iload_n hx hb dJ8_newLength_cabcc_0 rfl (lv_at hl 0 rfl) ?_
  refine lv_iload_n hx hb dJ8_newLength_cabcc_1 rfl (lv_at hl 1 rfl) ?_
  refine lv_iload_n hx hb dJ8_newLength_cabcc_2 rfl (lv_at hl 2 rfl) ?_
  refine va_mmax hx hb (hml.trans hl.1.symm) hown (hts (.methodLink RJ8 194 Lib.Math.max.name) (by decide +kernel)) (hts (.static Lib.Math.max.name) (by decide +kernel)) (hts (.initialized "java/lang/Math") (by decide +kernel)) (hts (.code Lib.Math.max.name Lib.Math.max.code 2 (some .int)) (by decide +kernel)) (Nat.le_of_ble_eq_true rfl) (Nat.le_of_ble_eq_true rfl) (Nat.le_of_ble_eq_true rfl) (Nat.le_of_ble_eq_true rfl) dJ8_newLength_cabcc_3 ?_
  refine x_top (y := (nI ((max a2 a3)))) (max_nI (by omega) (by omega)) ?_
  refine y_iadd hx hb dJ8_newLength_cabcc_6 ?_
  refine lv_istore_n (lv' := [(3, .int (nI (a1 + (max a2 a3)))), (0, .int (nI a1)), (1, .int (nI a2)), (2, .int (nI a3))]) hx hb dJ8_newLength_cabcc_7 rfl hl (by decide) rfl (fun ls hl => ?_)
  refine lv_iconst (v := nI 0) hx hb dJ8_newLength_cabcc_8 (by decide) ?_
  refine lv_iload_n hx hb dJ8_newLength_cabcc_9 rfl (lv_at hl 0 rfl) ?_
  refine y_icmp_ge hx hb (Nat.le_of_ble_eq_true rfl) (by omega) (tgt := 21) dJ8_newLength_cabcc_10 (by decide) (fun c10 => ?_) (fun c10 => ?_)
  · exact absurd c10 (by omega)
  · refine lv_iload_n hx hb dJ8_newLength_cabcc_13 rfl (lv_at hl 0 rfl) ?_
    refine lv_ldc (v := nI 2147483639) hx hb hown (hts (.constant RJ8 200 (2147483639)) (by decide +kernel)) dJ8_newLength_cabcc_14 ?_
    refine y_icmp_gt hx hb (by omega) (Nat.le_of_ble_eq_true rfl) (tgt := 21) dJ8_newLength_cabcc_16 (by decide) (fun c16 => ?_) (fun c16 => ?_)
    · exact absurd c16 (by omega)
    · refine lv_iload_n hx hb dJ8_newLength_cabcc_19 rfl (lv_at hl 0 rfl) ?_
      exact r_i hx hb hrt9 hlk hS (Nat.le_of_ble_eq_true rfl) (Nat.le_of_ble_eq_true rfl) dJ8_newLength_cabcc_20 (⟨rfl, rfl⟩)
theorem ox_recv {D : va_G} {T : Nat → ClassId} {s : State} {H : Heap} {arr n : Nat} {f : Nat → Option Nat} (hK : va_K D vwCl (tysT T) s) (h : rc (T 3) H arr n f) : ∃ cell : Cell, H[arr]? = some cell ∧ cell.vm.isStatics = false ∧ s.vm.findClass "[Ljava/lang/Object;" = some cell.cls := by
  exact ⟨_, h, rfl, va_nmO (hK.2 3 _ rfl).2 (by decide +kernel)⟩
set_option maxHeartbeats 4000000 in
set_option maxRecDepth 100000 in
theorem c_J7_copyOf_6403c (l : Launch) {D : va_G} {T : Nat → ClassId} {dE mi : Nat} {A : Nat → Prop} {H : Heap} {arr cap nc ci : Nat} {fe : Nat → Option Nat} {rr : vw_C} (hg : rc (T 3) H arr cap fe) (hle : cap ≤ nc) (hnc : nc < 1000000) (hAn : ∀ q : Nat, H.size ≤ q → A q) (hel : ∀ x, x < cap → ∀ y, fe x = some y → ∃ vs, oc D H y ci vs) (hci : vwCl[ci]? = some rr) (hca : (rr.1, "java/lang/Object") ∈ evCast) : vx_Met l yJ7_copyOf_6403c wsJ7_copyOf_6403c (rmL 2 1 nc) (PcE D T dE mi A H [.ref arr, .int (nI nc), .ref mi]) (QQ A (fun r H1 => r = some H.size ∧ (∃ fe2, rc (T 3) H1 H.size nc fe2 ∧ ∀ i, i < cap → fe2 i = fe i) ∧ H1.size = H.size + 1 ∧ ∀ q : Nat, q < H.size → H1[q]? = H[q]?)) (XX A (XN)) 1 nc A := by
  refine entry (cc := cJ7_copyOf_6403c) (maxL := 4) (ret := (some (.array (.object "java/lang/Object")))) (by decide) rfl (Nat.le_of_ble_eq_true rfl) ?_
  intro p e s m args below meth c hx hb hrt9 hml hown hts hlk hnt hnm hev hS ls hl
  have hown : s.vm.findClass RJ7 = some m.cls := hown
  have hK := hev.1
  have hl : lv_has ls 4 [(0, .ref arr), (1, .int (nI nc)), (2, .ref mi)] := hl
  refine lv_aload_n hx hb dJ7_copyOf_6403c_0 rfl (lv_at hl 2 rfl) ?_
  refine va_ldcM hx hb hown (hts (.classLink RJ7 110 "[Ljava/lang/Object;") (by decide +kernel)) hev.2.2.2.2.2.2.2.1 dJ7_copyOf_6403c_1 ?_
  refine lv_acmp_ne (rx := (some mi)) (ry := (some mi)) (tgt := 13) hx hb dJ7_copyOf_6403c_3 (by decide) (fun c3 => ?_) (fun c3 => ?_)
  · exact absurd rfl c3
  · refine lv_iload_n hx hb dJ7_copyOf_6403c_6 rfl (lv_at hl 1 rfl) ?_
    refine x_newq (C := "java/lang/Object") (t0 := 3) (n := nc) hx hb hown (hts (.classLink RJ7 2 "java/lang/Object") (by decide +kernel)) hev.2.2.2.2.2.2.1.2 hK rfl hS (by omega) (Nat.le_of_ble_eq_true rfl) (by show _ ≤ (nc : Nat); omega) dJ7_copyOf_6403c_7 (fun H1 hn1 hz1 hq1 hS => ?_)
    refine lv_goto (tgt := 24) hx hb dJ7_copyOf_6403c_10 (by decide) ?_
    refine lv_astore_n (lv' := [(3, .ref H.size), (0, .ref arr), (1, .int (nI nc)), (2, .ref mi)]) hx hb dJ7_copyOf_6403c_24 rfl hl (by decide) rfl (fun ls hl => ?_)
    refine lv_aload_n hx hb dJ7_copyOf_6403c_25 rfl (lv_at hl 1 rfl) ?_
    refine lv_iconst (v := nI 0) hx hb dJ7_copyOf_6403c_26 (by decide) ?_
    refine lv_aload_n hx hb dJ7_copyOf_6403c_27 rfl (lv_at hl 0 rfl) ?_
    refine lv_iconst (v := nI 0) hx hb dJ7_copyOf_6403c_28 (by decide) ?_
    refine lv_aload_n hx hb dJ7_copyOf_6403c_29 rfl (lv_at hl 1 rfl) ?_
    refine x_olen hx hb hK (hg.kept (hq1 _ hg.lt)) dJ7_copyOf_6403c_30 ?_
    refine lv_iload_n hx hb dJ7_copyOf_6403c_31 rfl (lv_at hl 2 rfl) ?_
    refine va_mmin hx hb (hml.trans hl.1.symm) hown (hts (.methodLink RJ7 304 Lib.Math.min.name) (by decide +kernel)) (hts (.static Lib.Math.min.name) (by decide +kernel)) (hts (.initialized "java/lang/Math") (by decide +kernel)) (hts (.code Lib.Math.min.name Lib.Math.min.code 2 (some .int)) (by decide +kernel)) (Nat.le_of_ble_eq_true rfl) (Nat.le_of_ble_eq_true rfl) (Nat.le_of_ble_eq_true rfl) (by show _ ≤ (nc : Nat); omega) dJ7_copyOf_6403c_32 ?_
    refine x_top (y := (nI cap)) (min_nI hle (by omega)) ?_
    refine x_cpy (k := cap) hx hb (hml.trans hl.1.symm) hown (hts (.methodLink RJ7 150 arraycopyName) (by decide +kernel)) (hts (.native arraycopyName) (by decide +kernel)) (hts (.static arraycopyName) (by decide +kernel)) (hts (.initialized "java/lang/System") (by decide +kernel)) hK hS (hg.kept (hq1 _ hg.lt)) hn1 (hAn _ (Nat.le_refl _)) (by omega) (by omega) (by omega) (by omega) (fun x hx2 y hy => by rw [Nat.zero_add] at hy; obtain ⟨vs, hvs⟩ := hel x (by omega) y hy; exact ⟨vs, hvs.kept (hq1 _ hvs.lt)⟩) hci (hev.2.2.2.1 _ hca) (Nat.le_of_ble_eq_true rfl) (Nat.le_of_ble_eq_true rfl) dJ7_copyOf_6403c_35 (fun H2 locs2 hg2 hz2 hq2 hS => ?_)
    refine lv_aload_n hx hb dJ7_copyOf_6403c_38 rfl (lv_at hl 0 rfl) ?_
    exact r_q (r := some H.size) hx hb hrt9 (Or.inr ⟨_, rfl⟩) hlk hS (Nat.le_of_ble_eq_true rfl) (by omega) dJ7_copyOf_6403c_39 (⟨rfl, ⟨_, hg2, fun i hi => by show (if 0 ≤ i ∧ i < 0 + cap then fe (0 + (i - 0)) else none) = fe i; rw [if_pos ⟨Nat.zero_le _, by omega⟩, Nat.zero_add, Nat.sub_zero]⟩, by rw [hz2, hz1], fun q9 h9 => (hq2 q9 (by omega)).trans (hq1 q9 h9)⟩)
set_option maxHeartbeats 4000000 in
set_option maxRecDepth 100000 in
theorem c_J7_copyOf_1904c (l : Launch) {D : va_G} {T : Nat → ClassId} {dE mi : Nat} {A : Nat → Prop} {H : Heap} {arr cap nc ci : Nat} {fe : Nat → Option Nat} {rr : vw_C} (hg : rc (T 3) H arr cap fe) (hle : cap ≤ nc) (hnc : nc < 1000000) (hAn : ∀ q : Nat, H.size ≤ q → A q) (hel : ∀ x, x < cap → ∀ y, fe x = some y → ∃ vs, oc D H y ci vs) (hci : vwCl[ci]? = some rr) (hca : (rr.1, "java/lang/Object") ∈ evCast) : vx_Met l yJ7_copyOf_1904c wsJ7_copyOf_1904c (rmL 3 1 nc) (PcE D T dE mi A H [.ref arr, .int (nI nc)]) (QQ A (fun r H1 => r = some H.size ∧ (∃ fe2, rc (T 3) H1 H.size nc fe2 ∧ ∀ i, i < cap → fe2 i = fe i) ∧ H1.size = H.size + 1 ∧ ∀ q : Nat, q < H.size → H1[q]? = H[q]?)) (XX A (XN)) 1 nc A := by
  refine entry (cc := cJ7_copyOf_1904c) (maxL := 2) (ret := (some (.array (.object "java/lang/Object")))) (by decide) rfl (Nat.le_of_ble_eq_true rfl) ?_
  intro p e s m args below meth c hx hb hrt9 hml hown hts hlk hnt hnm hev hS ls hl
  have hown : s.vm.findClass RJ7 = some m.cls := hown
  have hK := hev.1
  have hl : lv_has ls 2 [(0, .ref arr), (1, .int (nI nc))] := hl
  refine lv_aload_n hx hb dJ7_copyOf_1904c_0 rfl (lv_at hl 0 rfl) ?_
  refine lv_iload_n hx hb dJ7_copyOf_1904c_1 rfl (lv_at hl 1 rfl) ?_
  refine lv_aload_n hx hb dJ7_copyOf_1904c_2 rfl (lv_at hl 0 rfl) ?_
  refine va_getC hx hb (hml.trans hl.1.symm) hown (hts (.methodLink RJ7 86 ⟨"java/lang/Object", "getClass", "()Ljava/lang/Class;"⟩) (by decide +kernel)) hev.2.2.2.2.2.2.2.2 (hts (.selects "[Ljava/lang/Object;" ⟨"java/lang/Object", "getClass", "()Ljava/lang/Class;"⟩ ⟨"java/lang/Object", "getClass", "()Ljava/lang/Class;"⟩) (by decide +kernel)) (hts (.instanceMethod ⟨"java/lang/Object", "getClass", "()Ljava/lang/Class;"⟩) (by decide +kernel)) (hts (.native ⟨"java/lang/Object", "getClass", "()Ljava/lang/Class;"⟩) (by decide +kernel)) hev.2.2.2.2.2.2.2.1 (ox_recv hK hg) (Nat.le_of_ble_eq_true rfl) (Nat.le_of_ble_eq_true rfl) dJ7_copyOf_1904c_3 ?_
  refine k_qp (k_S (As := [.ref arr, .int (nI nc), .ref mi]) (rest := []) ⟨hx, hb, hml, hown, hts⟩ hev hS (c_J7_copyOf_6403c l hg hle hnc hAn hel hci hca) (va_cwS 3 hts gJ7_copyOf_1904c_J7_copyOf_6403c rfl rfl rfl (by decide +kernel) ⟨Nat.le_of_ble_eq_true rfl, Nat.le_of_ble_eq_true rfl⟩) rfl hl.1 (Nat.le_of_ble_eq_true rfl) dJ7_copyOf_1904c_6 (Nat.le_of_ble_eq_true rfl) (by show _ ≤ (nc : Nat); omega)) hS hnt hlk (fun _ _ h _ => h.elim) (Nat.le_of_ble_eq_true rfl) (by show _ ≤ (nc : Nat); omega) (fun rq1_ H1 locs1 hP hz1 hS => ?_)
  obtain ⟨er, eg, ez, eq9⟩ := hP
  exact r_q (r := rq1_) hx hb hrt9 (Or.inr ⟨_, rfl⟩) hlk hS (Nat.le_of_ble_eq_true rfl) (by omega) dJ7_copyOf_1904c_9 (⟨er, eg, ez, eq9⟩)
