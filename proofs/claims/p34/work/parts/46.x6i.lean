theorem PE.put {D : va_G} {T : Nat → ClassId} {b : Nat} {H H1 : Heap} {E : mE} (h : PE D T b H E) {sl i : Nat} {v t : Int32} {fv fm : Nat → Int32} (hv : ic (T 0) H1 (ea b sl + 1) 6 (upd fv i v)) (hm : ic (T 0) H1 (ea b sl + 2) 6 (upd fm i t)) (hf : ∀ j, j < 6 → fv j = mVal E sl j ∧ fm j = mMk E sl j) (e : ∀ q : Nat, q ≠ ea b sl + 1 → q ≠ ea b sl + 2 → H1[q]? = H[q]?) : PE D T b H1 (putE E sl i v t) := by
  intro k hk
  obtain ⟨h1, gv, gm, h2, h3, h4⟩ := h k hk
  by_cases c : k = sl
  · subst c
    refine ⟨h1.kept (e _ (by omega) (by omega)), _, _, hv, hm, fun j hj => ?_⟩
    obtain ⟨a1, a2⟩ := hf j hj
    show (if j = i then v else fv j) = nu (mVal E) k (nu (mVal E k) i v) k j ∧ (if j = i then t else fm j) = nu (mMk E) k (nu (mMk E k) i t) k j
    rw [nu_s, nu_s]
    by_cases d : j = i
    · rw [if_pos d, if_pos d, d, nu_s, nu_s]; exact ⟨rfl, rfl⟩
    · rw [if_neg d, if_neg d, nu_n d, nu_n d]; exact ⟨a1, a2⟩
  · have hne : ∀ x y : Nat, x < 3 → y < 3 → ea b k + x ≠ ea b sl + y := fun x y hx3 hy3 => by unfold ea; omega
    refine ⟨h1.kept (e _ (hne 0 1 (by decide) (by decide)) (hne 0 2 (by decide) (by decide))), gv, gm, h2.kept (e _ (hne 1 1 (by decide) (by decide)) (hne 1 2 (by decide) (by decide))), h3.kept (e _ (hne 2 1 (by decide) (by decide)) (hne 2 2 (by decide) (by decide))), fun j hj => ?_⟩
    show gv j = nu (mVal E) sl _ k j ∧ gm j = nu (mMk E) sl _ k j
    rw [nu_n c, nu_n c]; exact h4 j hj
set_option maxRecDepth 100000 in
theorem in_X6_set_RX1 : ∀ w ∈ wsX10, w ∈ wsX6_set := by decide +kernel
set_option maxRecDepth 100000 in
theorem in_X6_set_RX6 : ∀ w ∈ wsX60, w ∈ wsX6_set := by decide +kernel
set_option maxHeartbeats 4000000 in
set_option maxRecDepth 100000 in
theorem c_X6_set (l : Launch) {D : va_G} {T : Nat → ClassId} {dE mi : Nat} (hst : l.stackTraces = false) {A : Nat → Prop} {H : Heap} {b0 : Nat} {wo : Option Nat} {tk : Int32} (hX : PX D T b0 H wo tk) {M : mSt} (hE : PE D T b0 H (sE M)) (iE : InvE (sE M)) (hAe : ∀ q : Nat, b0 + 5 ≤ q → q < b0 + 101 → A q) (x kd v : Int32) : vx_Met l yX6_set wsX6_set (rmL 8 3 18) (PcE D T dE mi A H [.ref b0, .int x, .int kd, .int v]) (QI A (fun r H1 => ∃ sl i, ask M x kd = (0, sl, i) ∧ r = mVal (sE M) sl i ∧ PE D T b0 H1 (putE (sE M) sl i v tk) ∧ H1.size = H.size ∧ ∀ q : Nat, q < b0 + 5 ∨ b0 + 101 ≤ q → H1[q]? = H[q]?)) (XX A (XA H (ask M x kd).1)) 3 18 A := by
  refine entry (cc := cX6_set) (maxL := 6) (ret := (some .int)) (by decide) rfl (Nat.le_of_ble_eq_true rfl) ?_
  intro p e s m args below meth c hx hb hrt9 hml hown hts hlk hnt hnm hev hS ls hl
  have hown : s.vm.findClass RX6 = some m.cls := hown
  have hK := hev.1
  have hl : lv_has ls 6 [(0, .ref b0), (1, .int x), (2, .int kd), (3, .int v)] := hl
  refine lv_aload_n hx hb dX6_set_0 rfl (lv_at hl 0 rfl) ?_
  refine lv_iload_n hx hb dX6_set_1 rfl (lv_at hl 1 rfl) ?_
  refine lv_iload_n hx hb dX6_set_2 rfl (lv_at hl 2 rfl) ?_
  refine k_qp (k_V (As := [.int x, .int kd]) (rest := []) ⟨hx, hb, hml, hown, hts⟩ hev hS (c_X6_ownerOf l hst hX hE iE x kd) (cwV 2 hts gX6_set_X6_ownerOf rfl rfl rfl (by decide +kernel) ⟨Nat.le_of_ble_eq_true rfl, Nat.le_of_ble_eq_true rfl⟩) (x_recv hK hX.1 rfl) rfl hl.1 (Nat.le_of_ble_eq_true rfl) dX6_set_3 (Nat.le_of_ble_eq_true rfl) (Nat.le_of_ble_eq_true rfl)) hS hnt hlk (fun E9 H9 h9 z9 => h9) (Nat.le_of_ble_eq_true rfl) (Nat.le_of_ble_eq_true rfl) (fun rq1_ H1 locs1 hP hz1 hS => ?_)
  obtain ⟨eH, sl, i, hask, hlk9, hkd, hi6, hs32, hsal, er⟩ := hP
  have eH := eH.symm
  subst eH
  refine x_tov (y := .ref ((ea b0 sl))) (by rw [er]; rfl) ?_
  have hl : lv_has ls 6 [(0, .ref b0), (1, .int x), (2, .int (nI i)), (3, .int v)] := by
    have e9 : kd = (nI i) := hkd
    rw [← e9]; exact hl
  obtain ⟨he9, fv, fm, hfv, hfm, hfe⟩ := hE sl hs32
  have hea : b0 + 5 ≤ ea b0 sl ∧ ea b0 sl + 2 < b0 + 101 := by unfold ea; omega
  refine lv_astore (lv' := [(4, .ref ((ea b0 sl))), (0, .ref b0), (1, .int x), (2, .int (nI i)), (3, .int v)]) hx hb dX6_set_6 hl (by decide) rfl (fun ls hl => ?_)
  refine lv_aload hx hb dX6_set_8 (lv_at hl 0 rfl) ?_
  refine x_getN (C := RX1) (TT := TX1) (N := 6) (ci := 4) (v := .ref ((ea b0 sl + 1))) hx hb hts in_X6_set_RX1 hown hK (he9) rfl 0 (by decide) (hev.2.2.2.2.1.2 ("Archeloft", 132, "Archeloft$Entity", "values", "[I") (by decide +kernel)) (fun _ h9 => h9) rfl dX6_set_10 ?_
  refine lv_iload_n hx hb dX6_set_13 rfl (lv_at hl 3 rfl) ?_
  refine x_iald (i := i) hx hb hK hfv (by omega) (by decide) dX6_set_14 ?_
  refine lv_istore (lv' := [(5, .int ((fv i))), (4, .ref ((ea b0 sl))), (0, .ref b0), (1, .int x), (2, .int (nI i)), (3, .int v)]) hx hb dX6_set_15 hl (by decide) rfl (fun ls hl => ?_)
  refine lv_aload hx hb dX6_set_17 (lv_at hl 1 rfl) ?_
  refine lv_iload_n hx hb dX6_set_19 rfl (lv_at hl 4 rfl) ?_
  refine lv_iload_n hx hb dX6_set_20 rfl (lv_at hl 5 rfl) ?_
  refine lv_aload_n hx hb dX6_set_21 rfl (lv_at hl 2 rfl) ?_
  refine x_get (C := RX6) (TT := TX6) (N := 6) (ci := 9) (v := .int tk) hx hb hts in_X6_set_RX6 hown hK (hX.1) rfl 5 (by decide) (hts (.fieldLink RX6 32 "Archeloft" "tickOfNow" "I") (by decide +kernel)) (fun _ h9 => h9) rfl dX6_set_22 ?_
  refine k_vp (k_V (As := [.int (nI i), .int v, .int tk]) (rest := []) ⟨hx, hb, hml, hown, hts⟩ hev hS (c_X1_put l he9 hfv hfm (by omega) (hAe _ (by omega) (by omega)) (hAe _ (by omega) (by omega)) (by omega) hi6 v tk) (cwV 3 hts gX6_set_X1_put rfl rfl rfl (by decide +kernel) ⟨Nat.le_of_ble_eq_true rfl, Nat.le_of_ble_eq_true rfl⟩) (x_recv hK he9 rfl) rfl hl.1 (Nat.le_of_ble_eq_true rfl) dX6_set_25 (Nat.le_of_ble_eq_true rfl) (Nat.le_of_ble_eq_true rfl)) hS hnt hlk (fun _ _ h _ => h.elim) (Nat.le_of_ble_eq_true rfl) (Nat.le_of_ble_eq_true rfl) (fun H2 locs2 hP hz2 hS => ?_)
  refine W.widen (k := 0 + 3) (n := 0 + 18) (Nat.le_refl _) (Nat.le_refl _) ?_
  obtain ⟨hv3, hm3, ez3, eq3⟩ := hP
  refine lv_iload hx hb dX6_set_28 (lv_at hl 0 rfl) ?_
  exact r_i hx hb hrt9 hlk hS (Nat.le_of_ble_eq_true rfl) (Nat.le_of_ble_eq_true rfl) dX6_set_30 (⟨sl, i, hask, (hfe i hi6).1, hE.put hv3 hm3 hfe eq3, ez3, fun q9 h9 => eq3 q9 (by omega) (by omega)⟩)
