theorem cnt_same {f g : Nat → Bool} : ∀ n, (∀ k, k < n → f k = g k) → cnt f n = cnt g n := by
  intro n
  induction n with
  | zero => intro _; rfl
  | succ n ih =>
    intro h
    show cnt f n + (if f n = true then 1 else 0) = cnt g n + (if g n = true then 1 else 0)
    rw [ih (fun k hk => h k (by omega)), h n (Nat.lt_succ_self n)]
theorem cnt_none {f : Nat → Bool} : ∀ n, (∀ k, k < n → f k = false) → cnt f n = 0 := by
  intro n
  induction n with
  | zero => intro _; rfl
  | succ n ih =>
    intro h
    show cnt f n + (if f n = true then 1 else 0) = 0
    rw [ih (fun k hk => h k (by omega)), h n (Nat.lt_succ_self n)]; rfl
/-- who is told one by one, each once, is counted alike by slots -/
theorem cnt_enum (P : Nat → Bool) (g : Nat → Nat) : ∀ (N : Nat) (S : Nat → Bool), (∀ p, p < N → g p < 32) → (∀ p q, p < N → q < N → g p = g q → p = q) → (∀ k, k < 32 → (S k = true ↔ ∃ p, p < N ∧ g p = k)) → cnt (fun p => P (g p)) N = cnt (fun k => P k && S k) 32 := by
  intro N
  induction N with
  | zero =>
    intro S _ _ hS
    rw [cnt_none 32]
    · rfl
    · intro k hk
      cases e : S k with
      | false => exact Bool.and_false _
      | true => obtain ⟨p, hp, -⟩ := (hS k hk).mp e; exact absurd hp (Nat.not_lt_zero p)
  | succ N ih =>
    intro S h1 h2 hS
    have hg := h1 N (Nat.lt_succ_self N)
    have i1 := ih (nu S (g N) false) (fun p hp => h1 p (by omega)) (fun p q hp hq => h2 p q (by omega) (by omega)) (fun k hk => by
      by_cases c : k = g N
      · rw [c, nu_s]
        refine ⟨fun z => (by cases z), fun ⟨p, hp, e⟩ => ?_⟩
        have := h2 p N (by omega) (Nat.lt_succ_self N) e
        omega
      · rw [nu_n c, hS k hk]
        refine ⟨fun ⟨p, hp, e⟩ => ⟨p, ?_, e⟩, fun ⟨p, hp, e⟩ => ⟨p, by omega, e⟩⟩
        have : p ≠ N := fun z => c (by rw [← e, z])
        omega)
    have sN : S (g N) = true := (hS _ hg).mpr ⟨N, Nat.lt_succ_self N, rfl⟩
    show cnt (fun p => P (g p)) N + (if P (g N) = true then 1 else 0) = _
    rw [i1]
    cases hp : P (g N) with
    | true =>
      have u := cnt_upd (fun k => P k && S k) (s := g N) (by rw [hp, sN]; rfl) 32
      rw [if_pos hg] at u
      rw [if_pos rfl, ← u]
      congr 1
      refine cnt_same 32 (fun k _ => ?_)
      by_cases c : k = g N
      · rw [c, nu_s, nu_s]; exact Bool.and_false _
      · rw [nu_n c, nu_n c]
    | false =>
      rw [if_neg (by decide), Nat.add_zero]
      refine cnt_same 32 (fun k _ => ?_)
      by_cases c : k = g N
      · rw [c, nu_s, hp]; rfl
      · rw [nu_n c]
theorem mkF_mkd {E : mE} {k : Nat} {t : Int32} {fm : Nat → Int32} (h : ∀ i, i < 6 → fm i = mMk E k i) : ∀ n, n ≤ 6 → mkF (mKd E k) fm t n = mkd E k t n := by
  intro n
  induction n with
  | zero => intro _; rfl
  | succ n ih =>
    intro hn
    show (mkF (mKd E k) fm t n || (bitS (mKd E k) n && decide (t < fm n))) = (mkd E k t n || (bitS (mKd E k) n && decide (t < mMk E k n)))
    rw [ih (by omega), h n (by omega)]
/-- the answers, one by one -/
theorem ans_cnt {E : mE} {Q : mQ} {R : mR} (iE : InvE E) (iR : InvR E R) (q : Nat) (P : Nat → Bool) : cnt (fun p => P ((aP Q R q p).getD 0)) (aN Q R q) = cnt (fun k => P k && (mAl E k && ansQ Q q (mKd E k))) 32 := by
  refine cnt_enum P (fun p => (aP Q R q p).getD 0) (aN Q R q) _ (fun p hp => ?_) (fun p1 p2 h1 h2 e => ?_) (fun k hk => ⟨fun e => ?_, fun ⟨p, hp, e⟩ => ?_⟩)
  · obtain ⟨k, e, a, -⟩ := aP_al iR hp
    show (aP Q R q p).getD 0 < 32
    rw [e]; exact iE.2.1 k a
  · obtain ⟨k1, e1, -, -⟩ := aP_al iR h1
    obtain ⟨k2, e2, -, -⟩ := aP_al iR h2
    have e : (aP Q R q p1).getD 0 = (aP Q R q p2).getD 0 := e
    refine aP_inj iR h1 h2 ?_
    rw [e1, e2] at e ⊢
    exact congrArg some e
  · have h1 := (Bool.and_eq_true _ _).mp e
    obtain ⟨p, hp, he⟩ := aP_sur iR h1.1 h1.2
    exact ⟨p, hp, by show (aP Q R q p).getD 0 = k; rw [he]; rfl⟩
  · obtain ⟨k1, e1, a1, a2⟩ := aP_al iR hp
    have e : (aP Q R q p).getD 0 = k := e
    rw [e1] at e
    obtain rfl : k1 = k := e
    rw [a1, a2]; rfl
set_option maxHeartbeats 4000000 in
set_option maxRecDepth 100000 in
theorem c_X6_answer (l : Launch) {D : va_G} {T : Nat → ClassId} {dE mi : Nat} (hst : l.stackTraces = false) {A : Nat → Prop} {H : Heap} {b0 : Nat} {tg : Nat → Nat} {wo : Option Nat} {tk : Int32} (hX : PX D T b0 H wo tk) {R : mR} {y : mLy} (hR : RepR D T dE b0 tg H R y) {Q9 : mQ} {zq : mLz} (hQ : RepQ D T dE b0 tg H Q9 zq) (iQ : InvQ Q9) (hs64 : ∀ r, r < rN R → rS R r < 64) {E : mE} (hE : PE D T b0 H E) (iE : InvE E) (iR : InvR E R) (hAn : ∀ q : Nat, H.size ≤ q → A q) (x x2 : Int32) : vx_Met l yX6_answer wsX6_answer (rmL 9 7 95) (PcE D T dE mi A H [.ref b0, .int x, .int x2]) (QI A (fun r H1 => KP H H1 ∧ ∃ j i, x = nI j ∧ j < Q9.1 ∧ x2 = nI i ∧ i < aN Q9 R j ∧ r = handle E ((aP Q9 R j i).getD 0))) (XX A (XE H (fun E9 => E9 = "java/lang/IndexOutOfBoundsException" ∧ (inB x Q9.1 = false ∨ ∃ j, x = nI j ∧ j < Q9.1 ∧ inB x2 (aN Q9 R j) = false)))) 7 95 A := by
  refine entry (cc := cX6_answer) (maxL := 3) (ret := (some .int)) (by decide) rfl (Nat.le_of_ble_eq_true rfl) ?_
  intro p e s m args below meth c hx hb hrt9 hml hown hts hlk hnt hnm hev hS ls hl
  have hown : s.vm.findClass RX6 = some m.cls := hown
  have hK := hev.1
  have hl : lv_has ls 3 [(0, .ref b0), (1, .int x), (2, .int x2)] := hl
  refine lv_aload_n hx hb dX6_answer_0 rfl (lv_at hl 0 rfl) ?_
  refine lv_aload_n hx hb dX6_answer_1 rfl (lv_at hl 0 rfl) ?_
  refine lv_iload_n hx hb dX6_answer_2 rfl (lv_at hl 1 rfl) ?_
  refine k_qp (k_V (As := [.int x]) (rest := [.ref b0]) ⟨hx, hb, hml, hown, hts⟩ hev hS (c_X6_questionNumbered l hst hX hQ x) (cwV 1 hts gX6_answer_X6_questionNumbered rfl rfl rfl (by decide +kernel) ⟨Nat.le_of_ble_eq_true rfl, Nat.le_of_ble_eq_true rfl⟩) (x_recv hK hX.1 rfl) rfl hl.1 (Nat.le_of_ble_eq_true rfl) dX6_answer_3 (Nat.le_of_ble_eq_true rfl) (Nat.le_of_ble_eq_true rfl)) hS hnt hlk (fun E9 H9 h9 z9 => ⟨⟨h9.1.1, Or.inl h9.1.2⟩, h9.2⟩) (Nat.le_of_ble_eq_true rfl) (Nat.le_of_ble_eq_true rfl) (fun rq1_ H1 locs1 hP hz1 hS => ?_)
  obtain ⟨eH, j1, hxj, hj1, er⟩ := hP
  have eH := eH.symm
  subst eH
  refine x_tov (y := .ref ((zq.2.2 j1))) (by rw [er]; rfl) ?_
  obtain ⟨hqo, hqt⟩ := hQ.2 j1 hj1
  obtain ⟨qb1, qb2, qb3⟩ := iQ.2 j1 hj1
  refine k_qp (k_V (As := [.ref ((zq.2.2 j1))]) (rest := []) ⟨hx, hb, hml, hown, hts⟩ hev hS (c_X6_answersOf l hst hX hR hQ iQ hs64 hE iE iR hAn hj1) (cwV 1 hts gX6_answer_X6_answersOf rfl rfl rfl (by decide +kernel) ⟨Nat.le_of_ble_eq_true rfl, Nat.le_of_ble_eq_true rfl⟩) (x_recv hK hX.1 rfl) rfl hl.1 (Nat.le_of_ble_eq_true rfl) dX6_answer_6 (Nat.le_of_ble_eq_true rfl) (Nat.le_of_ble_eq_true rfl)) hS hnt hlk (fun _ _ h _ => h.elim) (Nat.le_of_ble_eq_true rfl) (Nat.le_of_ble_eq_true rfl) (fun rq2_ H2 locs2 hP hz2 hS => ?_)
  obtain ⟨er5, arr, cap, hFL, hokf, har, hkp⟩ := hP
  refine x_tov (y := .ref H.size) (by rw [er5]; rfl) ?_
  have hE9 := hE.kp hkp
  have hn32 := aN_le iE iR (Q := Q9) j1
  have hg32 : ∀ p, p < aN Q9 R j1 → (aP Q9 R j1 p).getD 0 < 32 := fun p hp => by obtain ⟨k, e, a, -⟩ := aP_al iR hp; rw [e]; exact iE.2.1 k a
  refine lv_iload_n hx hb dX6_answer_9 rfl (lv_at hl 2 rfl) ?_
  refine k_ip (k_S (As := [.ref H.size, .int x2]) (rest := []) ⟨hx, hb, hml, hown, hts⟩ hev hS (c_X6_handleAt l hst (g9 := fun p => (aP Q9 R j1 p).getD 0) hE9 hFL hg32 (by omega) x2) (va_cwS 2 hts gX6_answer_X6_handleAt rfl rfl rfl (by decide +kernel) ⟨Nat.le_of_ble_eq_true rfl, Nat.le_of_ble_eq_true rfl⟩) rfl hl.1 (Nat.le_of_ble_eq_true rfl) dX6_answer_10 (Nat.le_of_ble_eq_true rfl) (Nat.le_of_ble_eq_true rfl)) hS hnt hlk (fun E9 H9 h9 z9 => ⟨⟨h9.1.1, Or.inr ⟨j1, hxj, hj1, h9.1.2⟩⟩, hkp.tr h9.2⟩) (Nat.le_of_ble_eq_true rfl) (Nat.le_of_ble_eq_true rfl) (fun rq3_ H3 locs3 hP hz3 hS => ?_)
  obtain ⟨eH, i1, hxi, hi1, er3⟩ := hP
  refine x_top (y := ((handle E ((aP Q9 R j1 i1).getD 0)))) (er3) ?_
  exact r_i hx hb hrt9 hlk hS (Nat.le_of_ble_eq_true rfl) (Nat.le_of_ble_eq_true rfl) dX6_answer_13 (⟨by rw [eH]; exact hkp, j1, i1, hxj, hj1, hxi, hi1, rfl⟩)
set_option maxHeartbeats 4000000 in
set_option maxRecDepth 100000 in
theorem c_X6_changed (l : Launch) {D : va_G} {T : Nat → ClassId} {dE mi : Nat} (hst : l.stackTraces = false) {A : Nat → Prop} {H : Heap} {b0 : Nat} {tg : Nat → Nat} {wo : Option Nat} {tk : Int32} (hX : PX D T b0 H wo tk) {R : mR} {y : mLy} (hR : RepR D T dE b0 tg H R y) {Q9 : mQ} {zq : mLz} (hQ : RepQ D T dE b0 tg H Q9 zq) (iQ : InvQ Q9) (hs64 : ∀ r, r < rN R → rS R r < 64) {E : mE} (hE : PE D T b0 H E) (iE : InvE E) (iR : InvR E R) (hAn : ∀ q : Nat, H.size ≤ q → A q) (x x2 : Int32) : vx_Met l yX6_changed wsX6_changed (rmL 9 6 89) (PcE D T dE mi A H [.ref b0, .int x, .int x2]) (QI A (fun r H1 => KP H H1 ∧ ∃ j, x = nI j ∧ j < Q9.1 ∧ r = nI (cnt (fun k => mkd E k x2 6 && (mAl E k && ansQ Q9 j (mKd E k))) 32))) (XX A (XE H (fun E9 => E9 = "java/lang/IndexOutOfBoundsException" ∧ inB x Q9.1 = false))) 6 89 A := by
  refine entry (cc := cX6_changed) (maxL := 6) (ret := (some .int)) (by decide) rfl (Nat.le_of_ble_eq_true rfl) ?_
  intro p e s m args below meth c hx hb hrt9 hml hown hts hlk hnt hnm hev hS ls hl
  have hown : s.vm.findClass RX6 = some m.cls := hown
  have hK := hev.1
  have hl : lv_has ls 6 [(0, .ref b0), (1, .int x), (2, .int x2)] := hl
  refine lv_aload_n hx hb dX6_changed_0 rfl (lv_at hl 0 rfl) ?_
  refine lv_aload_n hx hb dX6_changed_1 rfl (lv_at hl 0 rfl) ?_
  refine lv_iload_n hx hb dX6_changed_2 rfl (lv_at hl 1 rfl) ?_
  refine k_qp (k_V (As := [.int x]) (rest := [.ref b0]) ⟨hx, hb, hml, hown, hts⟩ hev hS (c_X6_questionNumbered l hst hX hQ x) (cwV 1 hts gX6_changed_X6_questionNumbered rfl rfl rfl (by decide +kernel) ⟨Nat.le_of_ble_eq_true rfl, Nat.le_of_ble_eq_true rfl⟩) (x_recv hK hX.1 rfl) rfl hl.1 (Nat.le_of_ble_eq_true rfl) dX6_changed_3 (Nat.le_of_ble_eq_true rfl) (Nat.le_of_ble_eq_true rfl)) hS hnt hlk (fun E9 H9 h9 z9 => h9) (Nat.le_of_ble_eq_true rfl) (Nat.le_of_ble_eq_true rfl) (fun rq1_ H1 locs1 hP hz1 hS => ?_)
  obtain ⟨eH, j1, hxj, hj1, er⟩ := hP
  have eH := eH.symm
  subst eH
  refine x_tov (y := .ref ((zq.2.2 j1))) (by rw [er]; rfl) ?_
  obtain ⟨hqo, hqt⟩ := hQ.2 j1 hj1
  obtain ⟨qb1, qb2, qb3⟩ := iQ.2 j1 hj1
  refine k_qp (k_V (As := [.ref ((zq.2.2 j1))]) (rest := []) ⟨hx, hb, hml, hown, hts⟩ hev hS (c_X6_answersOf l hst hX hR hQ iQ hs64 hE iE iR hAn hj1) (cwV 1 hts gX6_changed_X6_answersOf rfl rfl rfl (by decide +kernel) ⟨Nat.le_of_ble_eq_true rfl, Nat.le_of_ble_eq_true rfl⟩) (x_recv hK hX.1 rfl) rfl hl.1 (Nat.le_of_ble_eq_true rfl) dX6_changed_6 (Nat.le_of_ble_eq_true rfl) (Nat.le_of_ble_eq_true rfl)) hS hnt hlk (fun _ _ h _ => h.elim) (Nat.le_of_ble_eq_true rfl) (Nat.le_of_ble_eq_true rfl) (fun rq2_ H2 locs2 hP hz2 hS => ?_)
  obtain ⟨er5, arr, cap, hFL, hokf, har, hkp⟩ := hP
  refine x_tov (y := .ref H.size) (by rw [er5]; rfl) ?_
  have hE9 := hE.kp hkp
  have hn32 := aN_le iE iR (Q := Q9) j1
  have hg32 : ∀ p, p < aN Q9 R j1 → (aP Q9 R j1 p).getD 0 < 32 := fun p hp => by obtain ⟨k, e, a, -⟩ := aP_al iR hp; rw [e]; exact iE.2.1 k a
  refine lv_astore_n (lv' := [(3, .ref H.size), (0, .ref b0), (1, .int x), (2, .int x2)]) hx hb dX6_changed_9 rfl hl (by decide) rfl (fun ls hl => ?_)
  refine lv_iconst (v := nI 0) hx hb dX6_changed_10 (by decide) ?_
  refine lv_istore (lv' := [(4, .int (nI 0)), (3, .ref H.size), (0, .ref b0), (1, .int x), (2, .int x2)]) hx hb dX6_changed_11 hl (by decide) rfl (fun ls hl => ?_)
  refine lv_iconst (v := nI 0) hx hb dX6_changed_13 (by decide) ?_
  refine lv_istore (lv' := [(5, .int (nI 0)), (4, .int (nI 0)), (3, .ref H.size), (0, .ref b0), (1, .int x), (2, .int x2)]) hx hb dX6_changed_14 hl (by decide) rfl (fun ls hl => ?_)
  have loop16 : ∀ (n : Nat) (i : Nat) (locsi_ : List Loc), aN Q9 R j1 - i < n → (i ≤ aN Q9 R j1) → (va_S A s.heap H2 locsi_) → ∀ (ls : Array Slot), lv_has ls 6 [(5, .int (nI i)), (4, .int (nI ((cnt (fun p => mkd E ((aP Q9 R j1 p).getD 0) x2 6) i)))), (3, .ref H.size), (2, .int x2), (0, .ref b0)] → W p l e (rmL 9 6 89) s m args below meth c H2 locsi_ (0 + 1 + 5) (0 + 6 + 83) (vx_MQ below (QI A (fun r H1 => KP H H1 ∧ ∃ j, x = nI j ∧ j < Q9.1 ∧ r = nI (cnt (fun k => mkd E k x2 6 && (mAl E k && ansQ Q9 j (mKd E k))) 32))) (XX A (XE H (fun E9 => E9 = "java/lang/IndexOutOfBoundsException" ∧ inB x Q9.1 = false))) args s 6 89 A) (F0 m 16 ls []) := by
    intro n
    induction n with
    | zero => intro i locsi_ hfuel; exact absurd hfuel (Nat.not_lt_zero _)
    | succ n ih16 =>
      intro i locsi_ hfuel hi hS ls hl
      refine lv_iload hx hb dX6_changed_16 (lv_at hl 0 rfl) ?_
      refine lv_aload_n hx hb dX6_changed_18 rfl (lv_at hl 2 rfl) ?_
      refine k_ip (k_V (As := []) (rest := [.int (nI i)]) ⟨hx, hb, hml, hown, hts⟩ hev hS (c_Jx4a65c_size_8abf5 l hFL) (cwV 0 hts gX6_changed_Jx4a65c_size_8abf5 rfl rfl rfl (by decide +kernel) ⟨Nat.le_of_ble_eq_true rfl, Nat.le_of_ble_eq_true rfl⟩) (x_recv hK ((hFL.rec).choose_spec) rfl) rfl hl.1 (Nat.le_of_ble_eq_true rfl) dX6_changed_19 (Nat.le_of_ble_eq_true rfl) (Nat.le_of_ble_eq_true rfl)) hS hnt hlk (fun _ _ h _ => h.elim) (Nat.le_of_ble_eq_true rfl) (Nat.le_of_ble_eq_true rfl) (fun rq3_ H3 locs3 hP hz3 hS => ?_)
      refine W.widen (k := 0 + 1 + 5) (n := 0 + 6 + 83) (Nat.le_refl _) (Nat.le_refl _) ?_
      obtain ⟨eH, er⟩ := hP
      have eH := eH.symm
      subst eH
      refine x_top (y := (nI ((aN Q9 R j1)))) (er) ?_
      refine y_icmp_ge hx hb (by omega) (by omega) (tgt := 50) dX6_changed_22 (by decide) (fun c22 => ?_) (fun c22 => ?_)
      · have ei : i = aN Q9 R j1 := by omega
        refine lv_iload hx hb dX6_changed_50 (lv_at hl 1 rfl) ?_
        exact r_i hx hb hrt9 hlk hS (Nat.le_of_ble_eq_true rfl) (Nat.le_of_ble_eq_true rfl) dX6_changed_52 (⟨hkp, j1, hxj, hj1, by rw [ei]; exact congrArg nI (ans_cnt iE iR j1 (fun k => mkd E k x2 6))⟩)
      · have hi2 : i < aN Q9 R j1 := c22
        obtain ⟨fv, fm, hfv, hfm, hfe⟩ := hE9.vals (hg32 i hi2)
        refine lv_aload_n hx hb dX6_changed_25 rfl (lv_at hl 2 rfl) ?_
        refine lv_iload hx hb dX6_changed_26 (lv_at hl 0 rfl) ?_
        refine k_qp (k_V (As := [.int (nI i)]) (rest := []) ⟨hx, hb, hml, hown, hts⟩ hev hS (c_Jx4a65c_get_915e3 l hFL (i := i) (hi2)) (cwV 1 hts gX6_changed_Jx4a65c_get_915e3 rfl rfl rfl (by decide +kernel) ⟨Nat.le_of_ble_eq_true rfl, Nat.le_of_ble_eq_true rfl⟩) (x_recv hK ((hFL.rec).choose_spec) rfl) rfl hl.1 (Nat.le_of_ble_eq_true rfl) dX6_changed_28 (Nat.le_of_ble_eq_true rfl) (Nat.le_of_ble_eq_true rfl)) hS hnt hlk (fun _ _ h _ => h.elim) (Nat.le_of_ble_eq_true rfl) (Nat.le_of_ble_eq_true rfl) (fun rq4_ H4 locs4 hP hz4 hS => ?_)
        refine W.widen (k := 0 + 1 + 5) (n := 0 + 6 + 83) (Nat.le_refl _) (Nat.le_refl _) ?_
        obtain ⟨eH, er⟩ := hP
        have eH := eH.symm
        subst eH
        refine x_tov (y := .ref ((ea b0 ((aP Q9 R j1 i).getD 0)))) (by rw [er]; rfl) ?_
        refine va_castE hx hb hown (hts (.classLink RX6 9 "Archeloft$Entity") (by decide +kernel)) (x_recv hK (hE9 _ (hg32 i hi2)).1 rfl) dX6_changed_31 ?_
        refine lv_iload_n hx hb dX6_changed_34 rfl (lv_at hl 3 rfl) ?_
        refine k_ip (k_V (As := [.int x2]) (rest := []) ⟨hx, hb, hml, hown, hts⟩ hev hS (c_X1_isMarkedAfter l (hE9 _ (hg32 i hi2)).1 hfm (iE.1 _) x2) (cwV 1 hts gX6_changed_X1_isMarkedAfter rfl rfl rfl (by decide +kernel) ⟨Nat.le_of_ble_eq_true rfl, Nat.le_of_ble_eq_true rfl⟩) (x_recv hK (hE9 _ (hg32 i hi2)).1 rfl) rfl hl.1 (Nat.le_of_ble_eq_true rfl) dX6_changed_35 (Nat.le_of_ble_eq_true rfl) (Nat.le_of_ble_eq_true rfl)) hS hnt hlk (fun _ _ h _ => h.elim) (Nat.le_of_ble_eq_true rfl) (Nat.le_of_ble_eq_true rfl) (fun rq5_ H5 locs5 hP hz5 hS => ?_)
        refine W.widen (k := 0 + 1 + 5) (n := 0 + 6 + 83) (Nat.le_refl _) (Nat.le_refl _) ?_
        obtain ⟨eH, er3⟩ := hP
        have eH := eH.symm
        subst eH
        refine x_top (y := (bI ((mkd E ((aP Q9 R j1 i).getD 0) x2 6)))) (by rw [er3, mkF_mkd (fun i hi => (hfe i hi).2) 6 (Nat.le_refl _)]) ?_
        refine y_bif_eq hx hb (tgt := 44) dX6_changed_38 (by decide) (fun c38 => ?_) (fun c38 => ?_)
        · have hl : lv_has ls 6 [(5, .int (nI i)), (4, .int (nI ((cnt (fun p => mkd E ((aP Q9 R j1 p).getD 0) x2 6) (i + 1))))), (3, .ref H.size), (2, .int x2), (0, .ref b0)] := by
            have e9 : (nI ((cnt (fun p => mkd E ((aP Q9 R j1 p).getD 0) x2 6) i))) = (nI ((cnt (fun p => mkd E ((aP Q9 R j1 p).getD 0) x2 6) (i + 1)))) := by rw [cnt_n (f := fun p => mkd E ((aP Q9 R j1 p).getD 0) x2 6) (by rw [c38]; decide)]
            rw [← e9]; exact hl
          refine lv_iinc (v := (nI (i + 1))) (lv' := [(5, .int (nI (i + 1))), (4, .int (nI ((cnt (fun p => mkd E ((aP Q9 R j1 p).getD 0) x2 6) (i + 1))))), (3, .ref H.size), (2, .int x2), (0, .ref b0)]) hx hb dX6_changed_44 hl (k := 0) rfl (nI_inc _) (by decide) rfl (fun ls hl => ?_)
          refine lv_goto (tgt := 16) hx hb dX6_changed_47 (by decide) ?_
          exact ih16 (i + 1) locs5 (by omega) (by omega) hS ls (lv_sub hl [0, 1, 2, 3, 4] rfl)
        · refine lv_iinc (v := (nI ((cnt (fun p => mkd E ((aP Q9 R j1 p).getD 0) x2 6) i) + 1))) (lv' := [(4, .int (nI ((cnt (fun p => mkd E ((aP Q9 R j1 p).getD 0) x2 6) i) + 1))), (5, .int (nI i)), (3, .ref H.size), (2, .int x2), (0, .ref b0)]) hx hb dX6_changed_41 hl (k := 1) rfl (nI_inc _) (by decide) rfl (fun ls hl => ?_)
          have hl : lv_has ls 6 [(4, .int (nI ((cnt (fun p => mkd E ((aP Q9 R j1 p).getD 0) x2 6) (i + 1))))), (5, .int (nI i)), (3, .ref H.size), (2, .int x2), (0, .ref b0)] := by
            have e9 : (nI ((cnt (fun p => mkd E ((aP Q9 R j1 p).getD 0) x2 6) i) + 1)) = (nI ((cnt (fun p => mkd E ((aP Q9 R j1 p).getD 0) x2 6) (i + 1)))) := by rw [cnt_t (f := fun p => mkd E ((aP Q9 R j1 p).getD 0) x2 6) c38]
            rw [← e9]; exact hl
          refine lv_iinc (v := (nI (i + 1))) (lv' := [(5, .int (nI (i + 1))), (4, .int (nI ((cnt (fun p => mkd E ((aP Q9 R j1 p).getD 0) x2 6) (i + 1))))), (3, .ref H.size), (2, .int x2), (0, .ref b0)]) hx hb dX6_changed_44 hl (k := 1) rfl (nI_inc _) (by decide) rfl (fun ls hl => ?_)
          refine lv_goto (tgt := 16) hx hb dX6_changed_47 (by decide) ?_
          exact ih16 (i + 1) locs5 (by omega) (by omega) hS ls (lv_sub hl [0, 1, 2, 3, 4] rfl)
  exact loop16 ((aN Q9 R j1 - 0) + 1) 0 locs2 (Nat.lt_succ_self _) (Nat.zero_le _) hS ls (lv_sub hl [0, 1, 2, 5, 3] rfl)
