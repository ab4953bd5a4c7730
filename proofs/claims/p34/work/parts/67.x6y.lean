theorem walk_rep {D : va_G} {T : Nat → ClassId} {dE b w arr cap N : Nat} {A : Nat → Prop} {tg : Nat → Nat} {H H3 : Heap} {g : Nat → Nat} (hT : TG A b H tg) (hde : ¬ A dE) (hL : AL D T dE H3 H.size arr cap N (fun j => ea b (g j))) (hok : okF cap) (har : 0 < cap → H.size ≤ arr) (harw : arr < w) (hw : H.size < w) (hz : H3.size = w + 2)
    (ho : oc D H3 w 8 [.ref H.size, .ref (w + 1), .int (nI 0)]) (hcl : ∀ f, AL D T dE H3 (w + 1) dE 0 0 f) : ∃ tg1, TG A b H3 tg1 ∧ TX tg H tg1 ∧ RepK D T dE b tg1 H3 (true, (N, g, 0), mC0) w H.size arr cap (w + 1) (dE, 0, fun _ => 0) := by
  have t0 := hT.kept (H1 := H3) (by omega)
  have z0 : ∀ q, H.size ≤ q → tg q = 0 := fun q hq => hT.fr hq
  have zd : tg dE = 0 := by
    by_cases z : tg dE = 0
    · exact z
    · exact absurd (hT.1 _ z).1 hde
  have nd : ∀ q, H.size ≤ q → dE ≠ q := fun q hq z => hde (by rw [z]; exact hT.2.1 q hq)
  have hne := hL.1
  have t1 := t0.nw2 (c := 302) (hT.2.1 H.size (Nat.le_refl _)) (z0 _ (Nat.le_refl _)) (by omega) (Nat.le_refl _)
  obtain ⟨tB, t2, e1, e2, e3⟩ : ∃ tB, TG A b H3 tB ∧ (∀ q, q ≠ arr → tB q = nu tg H.size 302 q) ∧ tB arr = (if cap = 0 then 0 else 303) ∧ tB dE = 0 := by
    by_cases c : cap = 0
    · have ea_ := hL.2.2.2.1 c
      exact ⟨_, t1, fun _ _ => rfl, by rw [if_pos c, ea_, nu_n (nd _ (Nat.le_refl _))]; exact zd, by rw [nu_n (nd _ (Nat.le_refl _))]; exact zd⟩
    · have ha := har (by omega)
      exact ⟨_, t1.nw2 (c := 303) (hT.2.1 arr ha) (by rw [nu_n hne]; exact z0 _ ha) (by omega) (Nat.le_refl _), fun q hq => nu_n hq, by rw [nu_s, if_neg c], by rw [nu_n (nd _ ha), nu_n (nd _ (Nat.le_refl _))]; exact zd⟩
  have b1 : tB w = 0 := by rw [e1 w (by omega), nu_n (by omega)]; exact z0 _ (by omega)
  have t3 := t2.nw2 (c := 300) (hT.2.1 w (by omega)) b1 (by omega) (Nat.le_refl _)
  have b2 : nu tB w 300 (w + 1) = 0 := by rw [nu_n (by omega), e1 _ (by omega), nu_n (by omega)]; exact z0 _ (by omega)
  have t4 := t3.nw2 (c := 304) (hT.2.1 (w + 1) (by omega)) b2 (by omega) (Nat.le_refl _)
  have r0 : ∀ q, q ≠ w → q ≠ w + 1 → nu (nu tB w 300) (w + 1) 304 q = tB q := fun q h1 h2 => by rw [nu_n h2, nu_n h1]
  refine ⟨_, t4, fun q hq => ?_, ho, ?_, ⟨hL, hok.k, ?_, ?_⟩, ⟨hcl _, Or.inl rfl, nu_s, ?_⟩, fun i hi => absurd hi (Nat.not_lt_zero i)⟩
  · rw [r0 q (by omega) (by omega)]
    by_cases c : q = arr
    · by_cases c0 : cap = 0
      · rw [c, hL.2.2.2.1 c0, e3, zd]
      · have := har (by omega)
        omega
    · rw [e1 q c, nu_n (by omega)]
  · rw [nu_n (by omega), nu_s]
  · rw [r0 _ (by omega) (by omega), e1 _ (Ne.symm hne), nu_s]
  · rw [r0 _ (by omega) (by omega), e2]
  · rw [if_pos rfl, r0 _ (nd w (by omega)) (nd (w + 1) (by omega))]; exact e3
theorem wal_1 {M : mSt} {x : Int32} (h : inB x (sQ M).1 = false) : oWalk M x = oErr M 1 := if_pos h
theorem wal_2 {M : mSt} {j : Nat} (hj : j < (sQ M).1) (hn : (sQ M).1 ≤ 8) (h : wOn (sW M) = true) : oWalk M (nI j) = oErr M 2 := (if_neg (by rw [inB_nI hj (by omega)]; decide)).trans (if_pos h)
theorem wal_0 {M : mSt} {j : Nat} (hj : j < (sQ M).1) (hn : (sQ M).1 ≤ 8) (h : ¬ wOn (sW M) = true) : oWalk M (nI j) = (0, nI (aN (sQ M) (sR M) j), wW M (true, (aN (sQ M) (sR M) j, fun p => (aP (sQ M) (sR M) j p).getD 0, 0), mC0)) := by
  have e := (if_neg (by rw [inB_nI hj (by omega)]; decide)).trans (if_neg h) (α := mO) (a := if inB (nI j) (sQ M).1 = false then oErr M 1 else if wOn (sW M) = true then oErr M 2 else _) (c := (0, nI (aN (sQ M) (sR M) (ix (nI j))), wW M (true, (aN (sQ M) (sR M) (ix (nI j)), fun p => (aP (sQ M) (sR M) (ix (nI j)) p).getD 0, 0), mC0)))
  rw [ix_nI (by omega)] at e
  unfold oWalk
  rw [ix_nI (by omega)]
  exact e
theorem nxt_1 {M : mSt} (h : wOn (sW M) = false) : oNext M = oErr M 1 := if_pos h
theorem nxt_e {M : mSt} (h : wOn (sW M) = true) (h2 : wTold (sW M) = wN (sW M)) : oNext M = (0, -1, M) := (if_neg (by rw [h]; decide)).trans (if_pos h2)
theorem nxt_0 {M : mSt} (h : wOn (sW M) = true) (h2 : ¬ wTold (sW M) = wN (sW M)) : oNext M = (0, handle (sE M) (wA (sW M) (wTold (sW M))), wW M (true, (wN (sW M), wA (sW M), wTold (sW M) + 1), wC (sW M))) := (if_neg (by rw [h]; decide)).trans (if_neg h2)
theorem inB4_f {x : Int32} (h0 : ¬ x = 0) (h1 : ¬ x = nI 1) (h2 : ¬ x = nI 2) (h3 : ¬ x = nI 3) : inB x 4 = false := by
  cases e : inB x 4 with
  | false => rfl
  | true =>
    obtain ⟨k, hk, hx⟩ := inB_of (by decide) e
    rcases (by omega : k = 0 ∨ k = 1 ∨ k = 2 ∨ k = 3) with rfl | rfl | rfl | rfl
    · exact absurd hx h0
    · exact absurd hx h1
    · exact absurd hx h2
    · exact absurd hx h3
theorem dfr_1 {M : mSt} {c h k v : Int32} (hc : inB c 4 = false) : oDefer M c h k v = oErr M 1 := if_pos hc
theorem dfr_2 {M : mSt} {c h k v : Int32} (hc : inB c 4 = true) (h2 : wOn (sW M) = false ∨ (wC (sW M)).1 = 20) : oDefer M c h k v = oErr M 2 := (if_neg (by rw [hc]; decide)).trans (if_pos h2)
theorem dfr_0 {M : mSt} {c h k v : Int32} (hc : inB c 4 = true) (h2 : wOn (sW M) = true) (h3 : ¬ (wC (sW M)).1 = 20) : oDefer M c h k v = (0, nI ((wC (sW M)).1 + 1), wW M (true, (wN (sW M), wA (sW M), wTold (sW M)), cAdd (wC (sW M)) c h k v)) := (if_neg (by rw [hc]; decide)).trans (if_neg (fun z => z.elim (fun z => by rw [h2] at z; cases z) h3))
set_option maxRecDepth 100000 in
theorem in_X6_walk_RX5 : ∀ w ∈ wsX50, w ∈ wsX6_walk := by decide +kernel
set_option maxRecDepth 100000 in
theorem in_X6_walk_RX6 : ∀ w ∈ wsX60, w ∈ wsX6_walk := by decide +kernel
set_option maxHeartbeats 4000000 in
set_option maxRecDepth 100000 in
theorem c_X6_walk (l : Launch) {D : va_G} {T : Nat → ClassId} {dE mi : Nat} (hst : l.stackTraces = false) {A : Nat → Prop} {H : Heap} {b0 : Nat} {tg : Nat → Nat} {wo : Option Nat} {M : mSt} {y : mLy} (hC : Core D T dE b0 tg H A (sE M) (sR M) y wo (sT M)) (iE : InvE (sE M)) (iR : InvR (sE M) (sR M)) (hwo : wOn (sW M) = wo.isSome) {zq : mLz} (hQ : RepQ D T dE b0 tg H (sQ M) zq) (iQ : InvQ (sQ M)) (x : Int32) : vx_Met l yX6_walk wsX6_walk (rmL 9 9 101) (PcE D T dE mi A H [.ref b0, .int x]) (QI A (fun r H1 => (oWalk M x).1 = 0 ∧ r = (oWalk M x).2.1 ∧ ∃ (tg1 : Nat → Nat) (w1 : Option Nat), TG A b0 H1 tg1 ∧ TX tg H tg1 ∧ PX D T b0 H1 w1 (sT M) ∧ RepW D T dE b0 tg1 H1 (sW (oWalk M x).2.2) w1 ∧ FR tg (fun t => t = 1) H H1)) (XX A (XE H (fun E9 => (E9 = "java/lang/IndexOutOfBoundsException" ∧ (oWalk M x).1 = 1) ∨ (E9 = "java/lang/IllegalStateException" ∧ (oWalk M x).1 = 2)))) 9 101 A := by
  refine entry (cc := cX6_walk) (maxL := 4) (ret := (some .int)) (by decide) rfl (Nat.le_of_ble_eq_true rfl) ?_
  intro p e s m args below meth c hx hb hrt9 hml hown hts hlk hnt hnm hev hS ls hl
  have hown : s.vm.findClass RX6 = some m.cls := hown
  have hK := hev.1
  have hl : lv_has ls 4 [(0, .ref b0), (1, .int x)] := hl
  obtain ⟨hT, hX, hE, hR⟩ := id hC
  refine lv_aload_n hx hb dX6_walk_0 rfl (lv_at hl 0 rfl) ?_
  refine lv_iload_n hx hb dX6_walk_1 rfl (lv_at hl 1 rfl) ?_
  refine k_qp (k_V (As := [.int x]) (rest := []) ⟨hx, hb, hml, hown, hts⟩ hev hS (c_X6_questionNumbered l hst hX hQ x) (cwV 1 hts gX6_walk_X6_questionNumbered rfl rfl rfl (by decide +kernel) ⟨Nat.le_of_ble_eq_true rfl, Nat.le_of_ble_eq_true rfl⟩) (x_recv hK hX.1 rfl) rfl hl.1 (Nat.le_of_ble_eq_true rfl) dX6_walk_2 (Nat.le_of_ble_eq_true rfl) (Nat.le_of_ble_eq_true rfl)) hS hnt hlk (fun E9 H9 h9 z9 => ⟨Or.inl ⟨h9.1.1, by rw [wal_1 h9.1.2]; rfl⟩, h9.2⟩) (Nat.le_of_ble_eq_true rfl) (Nat.le_of_ble_eq_true rfl) (fun rq1_ H1 locs1 hP hz1 hS => ?_)
  obtain ⟨eH, j1, hxj, hj1, er⟩ := hP
  have eH := eH.symm
  subst eH
  refine x_tov (y := .ref ((zq.2.2 j1))) (by rw [er]; rfl) ?_
  have hl : lv_has ls 4 [(0, .ref b0), (1, .int (nI j1))] := by
    have e9 : x = (nI j1) := hxj
    rw [← e9]; exact hl
  subst hxj
  refine lv_astore_n (lv' := [(2, .ref ((zq.2.2 j1))), (0, .ref b0), (1, .int (nI j1))]) hx hb dX6_walk_5 rfl hl (by decide) rfl (fun ls hl => ?_)
  refine lv_aload_n hx hb dX6_walk_6 rfl (lv_at hl 1 rfl) ?_
  refine k_vp (k_V (As := []) (rest := []) ⟨hx, hb, hml, hown, hts⟩ hev hS (c_X6_refuseDuringWalk l hst hX.1) (cwV 0 hts gX6_walk_X6_refuseDuringWalk rfl rfl rfl (by decide +kernel) ⟨Nat.le_of_ble_eq_true rfl, Nat.le_of_ble_eq_true rfl⟩) (x_recv hK hX.1 rfl) rfl hl.1 (Nat.le_of_ble_eq_true rfl) dX6_walk_7 (Nat.le_of_ble_eq_true rfl) (Nat.le_of_ble_eq_true rfl)) hS hnt hlk (fun E9 H9 h9 z9 => ⟨Or.inr ⟨h9.1.1, by rw [wal_2 hj1 iQ.1 (wo_s hwo h9.1.2)]; rfl⟩, h9.2⟩) (Nat.le_of_ble_eq_true rfl) (Nat.le_of_ble_eq_true rfl) (fun H2 locs2 hP hz2 hS => ?_)
  obtain ⟨eH, hwn⟩ := hP
  have eH := eH.symm
  subst eH
  refine lv_aload_n hx hb dX6_walk_10 rfl (lv_at hl 1 rfl) ?_
  refine lv_aload_n hx hb dX6_walk_11 rfl (lv_at hl 0 rfl) ?_
  refine k_qp (k_V (As := [.ref ((zq.2.2 j1))]) (rest := []) ⟨hx, hb, hml, hown, hts⟩ hev hS (c_X6_answersOf l hst hX hR hQ iQ iR.1 hE iE iR hT.2.1 hj1) (cwV 1 hts gX6_walk_X6_answersOf rfl rfl rfl (by decide +kernel) ⟨Nat.le_of_ble_eq_true rfl, Nat.le_of_ble_eq_true rfl⟩) (x_recv hK hX.1 rfl) rfl hl.1 (Nat.le_of_ble_eq_true rfl) dX6_walk_12 (Nat.le_of_ble_eq_true rfl) (Nat.le_of_ble_eq_true rfl)) hS hnt hlk (fun _ _ h _ => h.elim) (Nat.le_of_ble_eq_true rfl) (Nat.le_of_ble_eq_true rfl) (fun rq3_ H3 locs3 hP hz3 hS => ?_)
  obtain ⟨er5, arr, cap, hFL, hokf, har, hkp⟩ := hP
  refine x_tov (y := .ref H.size) (by rw [er5]; rfl) ?_
  obtain ⟨d1, d2, d3⟩ := hev.dE hS
  have hab : arr ≠ b0 := fun z => by
    by_cases h0 : 0 < cap
    · have := har h0
      have := hT.lt hT.2.2.1 (by decide)
      omega
    · exact d3 (by rw [← hFL.2.2.2.1 (by omega), z]; exact hT.a hT.2.2.1 (by decide))
  refine lv_astore_n (lv' := [(3, .ref H.size), (2, .ref ((zq.2.2 j1))), (0, .ref b0), (1, .int (nI j1))]) hx hb dX6_walk_15 rfl hl (by decide) rfl (fun ls hl => ?_)
  refine lv_aload_n hx hb dX6_walk_16 rfl (lv_at hl 2 rfl) ?_
  refine x_new (C := RX5) (TT := TX5) (N := 3) (ci := 8) (fs := [.null, .null, .int 0]) hx hb hts in_X6_walk_RX5 tyX5 tyX5_ok hown (hts (.classLink RX6 170 RX5) (by decide +kernel)) (hts (.instantiable RX5 3) (by decide +kernel)) (hts (.initialized RX5) (by decide +kernel)) hK hS rfl (by decide) (Nat.le_of_ble_eq_true rfl) (Nat.le_of_ble_eq_true rfl) dX6_walk_17 (fun H4 ho4 hz4 hq4 hS => ?_)
  have k5 : KP H3 H4 := ⟨by omega, hq4⟩
  refine lv_dup hx hb dX6_walk_20 rfl ?_
  refine lv_aload_n hx hb dX6_walk_21 rfl (lv_at hl 0 rfl) ?_
  refine k_vp (k_I (As := [.ref H.size]) (rest := [.ref H3.size, .ref b0]) ⟨hx, hb, hml, hown, hts⟩ hev hS (c_X5_init l ho4 (hT.2.1 _ hkp.1) (fun q9 h9 => hT.2.1 q9 (by have := hkp.1; omega)) H.size) (cwI 1 hts gX6_walk_X5_init rfl rfl rfl (hts (.initialized RX5) (by decide +kernel)) (hts (.methodLink RX6 172 yX5_init) (by decide +kernel)) (hts (.instanceMethod yX5_init) (by decide +kernel)) rfl (by decide +kernel) ⟨Nat.le_of_ble_eq_true rfl, Nat.le_of_ble_eq_true rfl⟩) rfl hl.1 (Nat.le_of_ble_eq_true rfl) dX6_walk_22 (Nat.le_of_ble_eq_true rfl) (Nat.le_of_ble_eq_true rfl)) hS hnt hlk (fun _ _ h _ => h.elim) (Nat.le_of_ble_eq_true rfl) (Nat.le_of_ble_eq_true rfl) (fun H5 locs5 hP hz5 hS => ?_)
  obtain ⟨ho9, hl9, hz9, hq9⟩ := hP
  have k6 : KP H3 H5 := ⟨by omega, fun q9 h9 => (hq9 q9 (by omega) (by omega)).trans (hq4 q9 h9)⟩
  have ho8 : oc D H5 H3.size 8 [.ref H.size, .ref (H3.size + 1), .int (nI 0)] := by rw [← hz4]; exact ho9
  have hl8 : ∀ f, AL D T dE H5 (H3.size + 1) dE 0 0 f := by rw [← hz4]; exact hl9
  have hz8 : H5.size = H3.size + 2 := by rw [hz9, hz4]
  have k7 : KP H H5 := hkp.tr k6
  have hX2 := hX.kp k7
  refine x_put (C := RX6) (TT := TX6) (N := 6) (ci := 9) (v := .ref H3.size) (ty := tyX6 4) hx hb hts in_X6_walk_RX6 tyX6 tyX6_ok nmX6 hown hK hS (hX2.1) (hT.a hT.2.2.1 (by decide)) rfl 4 (by decide) (hts (.fieldLink RX6 28 "Archeloft" "walkOfNow" "LArcheloft$Walk;") (by decide +kernel)) (fun _ h9 => h9) rfl (tyX6_ok 4 (by decide)) rfl rfl (Nat.le_of_ble_eq_true rfl) dX6_walk_25 (fun H6 locs6 ho6 hz6 hq6 hS => ?_)
  have ho6 : oc D H6 b0 9 [.ref ((b0 + 1)), .ref ((b0 + 2)), .ref ((b0 + 3)), .ref ((b0 + 4)), .ref H3.size, .int ((sT M))] := ho6
  have hX3 : PX D T b0 H6 (some H3.size) (sT M) := hX2.put ho6 hq6
  have hb0 : b0 < H.size := hT.lt hT.2.2.1 (by decide)
  have hFL3 := (hFL.kept (k6.2 _ hFL.lt.1) (k6.2 _ hFL.lt.2)).kept (H1 := H6) (hq6 _ (by omega)) (hq6 _ hab)
  have f3 : FR tg (fun t => t = 1) H H6 := ⟨by have := k7.1; omega, fun q9 h9 h8 => (hq6 q9 (fun z => h8 (by rw [z]; exact hT.2.2.1))).trans (k7.2 q9 h9)⟩
  obtain ⟨tg1, t1, tx1, rk1⟩ := walk_rep hT d3 hFL3 hokf har hFL.lt.2 hFL.lt.1 (by omega) (ho8.kept (hq6 _ (by have := hkp.1; omega))) (fun f => (hl8 f).kept (hq6 _ (by have := hkp.1; omega)) (hq6 _ (fun z => d3 (by rw [z]; exact hT.a hT.2.2.1 (by decide)))))
  refine lv_aload_n hx hb dX6_walk_28 rfl (lv_at hl 0 rfl) ?_
  refine k_ip (k_V (As := []) (rest := []) ⟨hx, hb, hml, hown, hts⟩ hev hS (c_Jx4a65c_size_8abf5 l hFL3) (cwV 0 hts gX6_walk_Jx4a65c_size_8abf5 rfl rfl rfl (by decide +kernel) ⟨Nat.le_of_ble_eq_true rfl, Nat.le_of_ble_eq_true rfl⟩) (x_recv hK ((hFL3.rec).choose_spec) rfl) rfl hl.1 (Nat.le_of_ble_eq_true rfl) dX6_walk_29 (Nat.le_of_ble_eq_true rfl) (Nat.le_of_ble_eq_true rfl)) hS hnt hlk (fun _ _ h _ => h.elim) (Nat.le_of_ble_eq_true rfl) (Nat.le_of_ble_eq_true rfl) (fun rq7_ H7 locs7 hP hz7 hS => ?_)
  refine W.widen (k := 0 + 1 + 1 + 5 + 1 + 1) (n := 0 + 6 + 6 + 83 + 3 + 3) (Nat.le_refl _) (Nat.le_refl _) ?_
  obtain ⟨eH, er⟩ := hP
  have eH := eH.symm
  subst eH
  refine x_top (y := (nI ((aN (sQ M) (sR M) j1)))) (er) ?_
  exact r_i hx hb hrt9 hlk hS (Nat.le_of_ble_eq_true rfl) (Nat.le_of_ble_eq_true rfl) dX6_walk_32 (by
      rw [wal_0 hj1 iQ.1 (wo_n hwo hwn)]
      exact ⟨rfl, rfl, tg1, _, t1, tx1, hX3, Or.inr ⟨rfl, _, _, _, _, _, _, rfl, rk1⟩, f3⟩)
