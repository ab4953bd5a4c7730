/-! the law's acts: owners, questions, systems, runs -/
def adE (E : mE) (k : Nat) (o : Option Nat) : mE := (mAl E, mHad E, mKd E, nu (mPar E) k o, mVal E, mMk E)
theorem LTw.par {Y Y1 : Nat → Nat → Int32} {E : mE} {R : mR} {k : Nat} {o : Option Nat} (h : LTw Y E R) (e1 : Y1 1 = upd (Y 1) (6 * k + 3) (nO o)) (hj : ∀ j, j ≠ 1 → Y1 j = Y j) : LTw Y1 (adE E k o) R := by
  have e2 := hj 2 (by decide)
  have e3 := hj 3 (by decide)
  refine ⟨⟨fun i hi => ?_, fun i hi => ?_, fun i hi ha => ?_, fun i hi ha => ?_, h.1.2.2.2.2.1, fun k i hk hi => by rw [e2]; exact h.1.2.2.2.2.2.1 k i hk hi, fun k i hk hi => by rw [e3]; exact h.1.2.2.2.2.2.2 k i hk hi⟩, h.2.1.cong rfl rfl (by rw [hj 9 (by decide)]) (hj 4 (by decide)), h.2.2.cong (fun i => by rw [e1]; exact ⟨upd_n (by omega), upd_n (by omega)⟩)⟩
  · rw [e1, upd_n (by omega)]; exact h.1.1 i hi
  · rw [e1, upd_n (by omega)]; exact h.1.2.1 i hi
  · rw [e1, upd_n (by omega)]; exact h.1.2.2.1 i hi ha
  · show Y1 1 _ = nO (nu (mPar E) k o i)
    rw [e1]
    by_cases c : i = k
    · rw [c, nu_s]; exact upd_s
    · rw [nu_n c, upd_n (by omega)]; exact h.1.2.2.2.1 i hi ha
def hitA (E : mE) (a b : Nat) : Nat → Bool
  | 0 => false
  | n + 1 => hitA E a b n || decide (anc E n a = some b)
theorem hitA_no {E : mE} {a b : Nat} : ∀ n, hitA E a b n = false → ∀ m, m < n → anc E m a ≠ some b := by
  intro n
  induction n with
  | zero => intro _ m h; exact absurd h (Nat.not_lt_zero m)
  | succ n ih =>
    intro h m hm
    have h1 : hitA E a b n = false := by
      cases z : hitA E a b n with
      | false => rfl
      | true => have h : (hitA E a b n || _) = false := h; rw [z] at h; cases h
    have h2 : ¬ anc E n a = some b := fun e => by
      have h : (hitA E a b n || decide (anc E n a = some b)) = false := h
      rw [h1, decide_eq_true e] at h; cases h
    by_cases c : m = n
    · rw [c]; exact h2
    · exact ih h1 m (by omega)
theorem hitA_yes {E : mE} {a b : Nat} : ∀ n, hitA E a b n = true → ∃ m, anc E m a = some b := by
  intro n
  induction n with
  | zero => intro h; cases h
  | succ n ih =>
    intro h
    have h : (hitA E a b n || decide (anc E n a = some b)) = true := h
    cases z : hitA E a b n with
    | true => exact ih z
    | false => rw [z] at h; exact ⟨n, of_decide_eq_true h⟩
theorem hitA_goes {E : mE} {a b n : Nat} (h : anc E n a = none) : goesB E a b = hitA E a b n := by
  cases z : hitA E a b n with
  | true => obtain ⟨m, hm⟩ := hitA_yes n z; exact goes_t hm
  | false => exact goes_f h (hitA_no n z)
theorem hitA_st {E : mE} {a b n u : Nat} (h : anc E n a = some u) : hitA E a b (n + 1) = (hitA E a b n || decide (u = b)) := by
  show (hitA E a b n || decide (anc E n a = some b)) = _
  rw [h]
  congr 1
  exact decide_eq_decide.mpr ⟨fun e => Option.some.inj e, fun e => by rw [e]⟩
theorem bI_or (a c : Bool) : bI a ||| bI c = bI (a || c) := by cases a <;> cases c <;> decide
theorem hdl_m1 {E : mE} {k : Nat} (hk : k < 32) (hb : ∀ j, mHad E j ≤ 900000) : handle E k ≠ -1 := by
  have := hb k
  unfold handle
  exact nI_m1 (by omega)
section OAD
variable {M : mSt} {x y : Int32} {sl p : Nat}
theorem ap_1 (hl : look (sE M) x = none) : oAdopt M x y = oErr M 1 := by unfold oAdopt; rw [hl]
theorem ap_1b (hl : look (sE M) x = some sl) (hy : y ≠ -1) (h : look (sE M) y = none) : oAdopt M x y = oErr M 1 := by unfold oAdopt; rw [hl]; exact if_pos ⟨hy, h⟩
theorem lookO_s (hy : y ≠ -1) (h : look (sE M) y = some p) : lookO (sE M) y = some p := by unfold lookO; rw [if_neg hy]; exact h
theorem ap_2 (hl : look (sE M) x = some sl) (hy : y ≠ -1) (h : look (sE M) y = some p) (hg : goesB (sE M) p sl = true) : oAdopt M x y = oErr M 2 := by
  unfold oAdopt; rw [hl]
  show (if _ then _ else _) = _
  rw [if_neg (fun z => by rw [h] at z; cases z.2), if_pos ⟨p, lookO_s hy h, hg⟩]
theorem ap_s (hl : look (sE M) x = some sl) (hy : y ≠ -1) (h : look (sE M) y = some p) (hg : goesB (sE M) p sl = false) : oAdopt M x y = if wOn (sW M) = true then oErr M 3 else (0, hdlO (sE M) (mPar (sE M) sl), wE M (adE (sE M) sl (some p))) := by
  unfold oAdopt; rw [hl]
  show (if _ then _ else _) = _
  rw [if_neg (fun z => by rw [h] at z; cases z.2), if_neg (fun z => by
    obtain ⟨q, h1, h2⟩ := z
    rw [lookO_s hy h] at h1
    rw [← Option.some.inj h1, hg] at h2; cases h2), lookO_s hy h]
  rfl
theorem ap_n (hl : look (sE M) x = some sl) : oAdopt M x (-1) = if wOn (sW M) = true then oErr M 3 else (0, hdlO (sE M) (mPar (sE M) sl), wE M (adE (sE M) sl none)) := by
  have h0 : lookO (sE M) (-1) = none := if_pos rfl
  unfold oAdopt; rw [hl]
  show (if _ then _ else _) = _
  rw [if_neg (fun z => z.1 rfl), if_neg (fun z => by obtain ⟨q, h1, h2⟩ := z; rw [h0] at h1; cases h1), h0]
  rfl
end OAD
theorem bit_and2 : ∀ n, n < 64 → ∀ d, d < 64 → nI n &&& nI d = nI (n &&& d) ∧ n &&& d < 64 := by decide +kernel
theorem isS_nI {i : Nat} (h : i < 64) : isS (nI i) = true := decide_eq_true ⟨nI_pos' (by omega), nI_lt h (by decide)⟩
theorem qs_0 {M : mSt} {a o y : Nat} (ha : a < 64) (ho : o < 64) (hy : y < 64) (h : (sQ M).1 ≠ 8) : oQuestion M (nI a) (nI o) (nI y) = (0, nI (sQ M).1, wQ M ((sQ M).1 + 1, nu (sQ M).2.1 (sQ M).1 a, nu (sQ M).2.2.1 (sQ M).1 o, nu (sQ M).2.2.2 (sQ M).1 y)) := by
  unfold oQuestion
  rw [if_neg (fun z => by rw [isS_nI ha, isS_nI ho, isS_nI hy] at z; rcases z with z | z | z <;> cases z), if_neg h, ix_nI (by omega), ix_nI (by omega), ix_nI (by omega)]
theorem LQ.add {Y Y1 : Nat → Nat → Int32} {Q : mQ} {a o y : Nat} (h : LQ Y Q) (e2 : Y1 9 2 = nI (Q.1 + 1)) (e5 : ∀ j, Y1 5 j = if j = 3 * Q.1 + 2 then nI y else if j = 3 * Q.1 + 1 then nI o else if j = 3 * Q.1 then nI a else Y 5 j) : LQ Y1 (Q.1 + 1, nu Q.2.1 Q.1 a, nu Q.2.2.1 Q.1 o, nu Q.2.2.2 Q.1 y) := by
  refine ⟨e2, fun i hi => ?_⟩
  have hi : i < Q.1 + 1 := hi
  show Y1 5 (3 * i) = nI (nu Q.2.1 Q.1 a i) ∧ Y1 5 (3 * i + 1) = nI (nu Q.2.2.1 Q.1 o i) ∧ Y1 5 (3 * i + 2) = nI (nu Q.2.2.2 Q.1 y i)
  rw [e5, e5, e5]
  by_cases c : i = Q.1
  · rw [c, nu_s, nu_s, nu_s, if_neg (by omega), if_neg (by omega), if_pos rfl, if_neg (by omega), if_pos rfl, if_pos rfl]
    exact ⟨rfl, rfl, rfl⟩
  · rw [nu_n c, nu_n c, nu_n c, if_neg (by omega), if_neg (by omega), if_neg (by omega), if_neg (by omega), if_neg (by omega), if_neg (by omega), if_neg (by omega), if_neg (by omega), if_neg (by omega)]
    exact h.2 i (by omega)
theorem rn_1 {M : mSt} (hw : wOn (sW M) = true) : oRun M = oErr M 1 := if_pos hw
theorem rn_0 {M : mSt} (hw : wOn (sW M) = false) : oRun M = (0, (runS (sY M) (sT M + 1) (sE M) (stgs (sY M) (sY M).1)).2, ((runS (sY M) (sT M + 1) (sE M) (stgs (sY M) (sY M).1)).1, sR M, sQ M, sW M, sY M, sT M + 1)) := if_neg (by rw [hw]; decide)
set_option maxHeartbeats 4000000 in
set_option maxRecDepth 100000 in
theorem law_adopt {p : Program} {l : Launch} {e : Env} {s : State} {m : MethodId} {below : List Frame} {meth : Method} {c : Code} {Q : State → Prop} {b : Nat} {D : va_G} {T : Nat → ClassId} {dE mi b0 g : Nat} (hst : l.stackTraces = false) (hx : p.tables.exec = Jvm.exec) (hb : c.code = cL_law) (hml : c.maxLocals = 26) (hown : s.vm.findClass RL = some m.cls) (hts : ∀ w ∈ wsL_law, w.before #[Value.ref b] s = true) (hev : EV D T dE mi (fun q : Nat => s.heap.size ≤ q) s) {k : Nat} (hk : k < 70) {H : Heap} {locs : List Loc} {M : mSt} {Y : Nat → Nat → Int32} (hPK : PK D T dE b0 (fun q : Nat => s.heap.size ≤ q) g Y M H) (hR : LRel Y M) (hI : Inv (800 * k) M) (hS : va_S (fun q : Nat => s.heap.size ≤ q) s.heap H locs) {kx ox px kd9 : Nat} {x z vx : Int32} {hv : Bool} (hkx : kx < 10) (hox : ox < 10) (hpx : px < 6) (hhv : mAl (sE M) kx = true → hv = bitS (mKd (sE M) kx) px) {ls : Array Slot} (hl : lv_has ls 26 [(21, .int (bI hv)), (20, .int (bI (mAl (sE M) kx))), (19, .int vx), (18, .int (nI px)), (17, .int (handle (sE M) kx)), (16, .int (nI ox)), (15, .int (nI kx)), (14, .int (nI kd9)), (13, .int z), (12, .int x), (11, .int (nI k)), (10, .ref (g + 9)), (9, .ref (g + 8)), (8, .ref (g + 7)), (7, .ref (g + 6)), (6, .ref (g + 5)), (5, .ref (g + 4)), (4, .ref (g + 3)), (3, .ref (g + 2)), (2, .ref (g + 1)), (1, .ref b0), (0, .ref b)])
    (hchk : ∀ (H1 : Heap) (locs1 : List Loc) (M1 : mSt) (Y1 : Nat → Nat → Int32) (ls1 : Array Slot), PK D T dE b0 (fun q : Nat => s.heap.size ≤ q) g Y1 M1 H1 → LRel Y1 M1 → Inv (800 * (k + 1)) M1 → va_S (fun q : Nat => s.heap.size ≤ q) s.heap H1 locs1 → lv_has ls1 26 [(11, .int (nI k)), (10, .ref (g + 9)), (9, .ref (g + 8)), (8, .ref (g + 7)), (7, .ref (g + 6)), (6, .ref (g + 5)), (5, .ref (g + 4)), (4, .ref (g + 3)), (3, .ref (g + 2)), (2, .ref (g + 1)), (1, .ref b0), (0, .ref b)] → W p l e room_1 s m #[Value.ref b] below meth c H1 locs1 (200 + 4400 * k + 300) (5000 + 50000 * k + 5400) Q (F0 m 1955 ls1 [])) (hnxt : ∀ (H1 : Heap) (locs1 : List Loc) (M1 : mSt) (Y1 : Nat → Nat → Int32) (ls1 : Array Slot), PK D T dE b0 (fun q : Nat => s.heap.size ≤ q) g Y1 M1 H1 → LRel Y1 M1 → Inv (800 * (k + 1)) M1 → va_S (fun q : Nat => s.heap.size ≤ q) s.heap H1 locs1 → lv_has ls1 26 [(11, .int (nI k)), (10, .ref (g + 9)), (9, .ref (g + 8)), (8, .ref (g + 7)), (7, .ref (g + 6)), (6, .ref (g + 5)), (5, .ref (g + 4)), (4, .ref (g + 3)), (3, .ref (g + 2)), (2, .ref (g + 1)), (1, .ref b0), (0, .ref b)] → W p l e room_1 s m #[Value.ref b] below meth c H1 locs1 (200 + 4400 * (k + 1)) (5000 + 50000 * (k + 1)) Q (F0 m 1986 ls1 [])) (hrtn : ∀ (H1 : Heap) (locs1 : List Loc) (ls1 : Array Slot), va_S (fun q : Nat => s.heap.size ≤ q) s.heap H1 locs1 → W p l e room_1 s m #[Value.ref b] below meth c H1 locs1 (200 + 4400 * (k + 1)) (5000 + 50000 * (k + 1)) Q (F0 m 1848 ls1 [.int (nI 1)])) : W p l e room_1 s m #[Value.ref b] below meth c H locs (200 + 4400 * k) (5000 + 50000 * k) Q (F0 m 659 ls []) := by
  have hK := hev.1
  have hL := hPK.sl
  have hAS := hPK.as
  have hh := hI.had
  have iE := hI.1
  have iR := hI.2.1
  have hT := hR.1
  have h10 := hT.1.2.2.2.2.1
  obtain ⟨dp, hdp⟩ := iE.2.2.2.2
  refine lv_iload hx hb dL_law_659 (lv_at hl 8 rfl) ?_
  refine lv_iconst (v := nI 4) hx hb dL_law_661 (by decide) ?_
  refine k_iN (k_S (As := [.int z, .int (nI 4)]) (rest := []) ⟨hx, hb, hml, hown, hts⟩ hev hS (c_L_low l (z) (q := 4) (by decide) (by decide)) (va_cwS 2 hts gL_law_L_low rfl rfl rfl (by decide +kernel) ⟨Nat.le_of_ble_eq_true rfl, Nat.le_of_ble_eq_true rfl⟩) rfl hl.1 (Nat.le_of_ble_eq_true rfl) dL_law_662 (by show _ ≤ (704995 : Nat); omega) (by show _ ≤ (6986640 : Nat); omega)) hS (fun rq1_ H1 locs1 hP hz1 hS => ?_)
  refine W.widen (k := 200 + 4400 * k) (n := 5000 + 50000 * k) (Nat.le_refl _) (Nat.le_refl _) ?_
  have hPK : PK D T dE b0 (fun q : Nat => s.heap.size ≤ q) g Y M H1 := by rw [hP.1]; exact hPK
  have hL := hPK.sl
  obtain ⟨-, j1, hj1, ej1⟩ := hP
  refine x_top (y := (nI j1)) (ej1) ?_
  refine y_if_ne hx hb (by omega) (tgt := 672) dL_law_665 (by decide) (fun c665 => ?_) (fun c665 => ?_)
  · refine lv_iload hx hb dL_law_672 (lv_at hl 5 rfl) ?_
    rcases Bool.eq_false_or_eq_true (mAl (sE M) ox) with hao | hao
    · have hlo := look_h (show ox < 32 by omega) hao hh
      refine lv_istore (lv' := [(22, .int (nI ox)), (21, .int (bI hv)), (20, .int (bI (mAl (sE M) kx))), (19, .int vx), (18, .int (nI px)), (17, .int (handle (sE M) kx)), (16, .int (nI ox)), (15, .int (nI kx)), (14, .int (nI kd9)), (13, .int z), (12, .int x), (11, .int (nI k)), (10, .ref (g + 9)), (9, .ref (g + 8)), (8, .ref (g + 7)), (7, .ref (g + 6)), (6, .ref (g + 5)), (5, .ref (g + 4)), (4, .ref (g + 3)), (3, .ref (g + 2)), (2, .ref (g + 1)), (1, .ref b0), (0, .ref b)]) hx hb dL_law_674 hl (by decide) rfl (fun ls hl => ?_)
      refine lv_iconst (v := nI 0) hx hb dL_law_676 (by decide) ?_
      refine lv_istore (lv' := [(23, .int (nI 0)), (22, .int (nI ox)), (21, .int (bI hv)), (20, .int (bI (mAl (sE M) kx))), (19, .int vx), (18, .int (nI px)), (17, .int (handle (sE M) kx)), (16, .int (nI ox)), (15, .int (nI kx)), (14, .int (nI kd9)), (13, .int z), (12, .int x), (11, .int (nI k)), (10, .ref (g + 9)), (9, .ref (g + 8)), (8, .ref (g + 7)), (7, .ref (g + 6)), (6, .ref (g + 5)), (5, .ref (g + 4)), (4, .ref (g + 3)), (3, .ref (g + 2)), (2, .ref (g + 1)), (1, .ref b0), (0, .ref b)]) hx hb dL_law_677 hl (by decide) rfl (fun ls hl => ?_)
      refine lv_iload hx hb dL_law_679 (lv_at hl 1 rfl) ?_
      refine lv_istore (lv' := [(24, .int (nI ox)), (23, .int (nI 0)), (22, .int (nI ox)), (21, .int (bI hv)), (20, .int (bI (mAl (sE M) kx))), (19, .int vx), (18, .int (nI px)), (17, .int (handle (sE M) kx)), (16, .int (nI ox)), (15, .int (nI kx)), (14, .int (nI kd9)), (13, .int z), (12, .int x), (11, .int (nI k)), (10, .ref (g + 9)), (9, .ref (g + 8)), (8, .ref (g + 7)), (7, .ref (g + 6)), (6, .ref (g + 5)), (5, .ref (g + 4)), (4, .ref (g + 3)), (3, .ref (g + 2)), (2, .ref (g + 1)), (1, .ref b0), (0, .ref b)]) hx hb dL_law_681 hl (by decide) rfl (fun ls hl => ?_)
      have loop683 : ∀ (n : Nat) (n9 : Nat) (o9 : Option Nat), muO dp o9 < n → (anc (sE M) n9 ox = o9) → (∀ u, o9 = some u → mAl (sE M) u = true) → ∀ (ls : Array Slot), lv_has ls 26 [(24, .int (nO o9)), (23, .int (bI (hitA (sE M) ox kx n9))), (22, .int (nI ox)), (21, .int (bI hv)), (20, .int (bI (mAl (sE M) kx))), (19, .int vx), (18, .int (nI px)), (17, .int (handle (sE M) kx)), (16, .int (nI ox)), (15, .int (nI kx)), (14, .int (nI kd9)), (13, .int z), (12, .int x), (11, .int (nI k)), (10, .ref (g + 9)), (9, .ref (g + 8)), (8, .ref (g + 7)), (7, .ref (g + 6)), (6, .ref (g + 5)), (5, .ref (g + 4)), (4, .ref (g + 3)), (3, .ref (g + 2)), (2, .ref (g + 1)), (1, .ref b0), (0, .ref b)] → W p l e room_1 s m #[Value.ref b] below meth c H1 locs1 (200 + 4400 * k) (5000 + 50000 * k) Q (F0 m 683 ls []) := by
        intro n
        induction n with
        | zero => intro n9 o9 hfuel; exact absurd hfuel (Nat.not_lt_zero _)
        | succ n ih683 =>
          intro n9 o9 hfuel ho9 hal9 ls hl
          rcases o9 with _ | u
          · have hl : lv_has ls 26 [(24, .int ((-1))), (23, .int (bI (hitA (sE M) ox kx n9))), (22, .int (nI ox)), (21, .int (bI hv)), (20, .int (bI (mAl (sE M) kx))), (19, .int vx), (18, .int (nI px)), (17, .int (handle (sE M) kx)), (16, .int (nI ox)), (15, .int (nI kx)), (14, .int (nI kd9)), (13, .int z), (12, .int x), (11, .int (nI k)), (10, .ref (g + 9)), (9, .ref (g + 8)), (8, .ref (g + 7)), (7, .ref (g + 6)), (6, .ref (g + 5)), (5, .ref (g + 4)), (4, .ref (g + 3)), (3, .ref (g + 2)), (2, .ref (g + 1)), (1, .ref b0), (0, .ref b)] := hl
            refine lv_iload hx hb dL_law_683 (lv_at hl 0 rfl) ?_
            refine lv_if_lt (tgt := 730) hx hb dL_law_685 (by decide) (fun c685 => ?_) (fun c685 => ?_)
            · rcases Bool.eq_false_or_eq_true (mAl (sE M) kx) with hal | hal
              · have hl : lv_has ls 26 [(24, .int ((-1))), (23, .int (bI (hitA (sE M) ox kx n9))), (22, .int (nI ox)), (21, .int (bI hv)), (20, .int (bI (mAl (sE M) kx))), (19, .int vx), (18, .int (nI px)), (17, .int (handle (sE M) kx)), (16, .int (nI ox)), (15, .int (nI kx)), (14, .int (nI kd9)), (13, .int z), (12, .int x), (11, .int (nI k)), (10, .ref (g + 9)), (9, .ref (g + 8)), (8, .ref (g + 7)), (7, .ref (g + 6)), (6, .ref (g + 5)), (5, .ref (g + 4)), (4, .ref (g + 3)), (3, .ref (g + 2)), (2, .ref (g + 1)), (1, .ref b0), (0, .ref b)] := hl
                have hl : lv_has ls 26 [(24, .int ((-1))), (23, .int (bI (hitA (sE M) ox kx n9))), (22, .int (nI ox)), (21, .int (bI hv)), (20, .int (nI 1)), (19, .int vx), (18, .int (nI px)), (17, .int (handle (sE M) kx)), (16, .int (nI ox)), (15, .int (nI kx)), (14, .int (nI kd9)), (13, .int z), (12, .int x), (11, .int (nI k)), (10, .ref (g + 9)), (9, .ref (g + 8)), (8, .ref (g + 7)), (7, .ref (g + 6)), (6, .ref (g + 5)), (5, .ref (g + 4)), (4, .ref (g + 3)), (3, .ref (g + 2)), (2, .ref (g + 1)), (1, .ref b0), (0, .ref b)] := by
                  have e9 : (bI (mAl (sE M) kx)) = (nI 1) := by rw [hal]; rfl
                  first
                    | (rw [← e9]; exact hl)
                    | (rw [e9] at hl; exact hl)
                have hlk := look_h (show kx < 32 by omega) hal hh
                have hk64 := iE.1 kx
                refine lv_iload hx hb dL_law_730 (lv_at hl 4 rfl) ?_
                refine y_if_eq hx hb (by decide) (tgt := 750) dL_law_732 (by decide) (fun c732 => ?_) (fun c732 => ?_)
                · exact absurd c732 (by decide)
                · refine lv_iload hx hb dL_law_735 (lv_at hl 2 rfl) ?_
                  refine y_if_lt hx hb (by omega) (tgt := 754) dL_law_737 (by decide) (fun c737 => ?_) (fun c737 => ?_)
                  · exact c737.elim
                  · refine lv_aload_n hx hb dL_law_740 rfl (lv_at hl 22 rfl) ?_
                    refine lv_bipush (v := nI 6) hx hb dL_law_741 (by decide) ?_
                    refine lv_iload hx hb dL_law_743 (lv_at hl 2 rfl) ?_
                    refine y_imul hx hb dL_law_745 ?_
                    refine n_ld1 (i := 6 * ox) hx hb hK hL (by omega) dL_law_746 ?_
                    refine x_top (y := (nI 1)) (by rw [hT.1.1 ox hox, hao]; rfl) ?_
                    refine y_if_ne hx hb (by decide) (tgt := 754) dL_law_747 (by decide) (fun c747 => ?_) (fun c747 => ?_)
                    · refine lv_iload hx hb dL_law_754 (lv_at hl 1 rfl) ?_
                      refine y_bif_eq hx hb (tgt := 763) dL_law_756 (by decide) (fun c756 => ?_) (fun c756 => ?_)
                      · have hbel := c756
                        refine lv_aload hx hb dL_law_763 (lv_at hl 14 rfl) ?_
                        refine lv_iconst (v := nI 4) hx hb dL_law_765 (by decide) ?_
                        refine n_ld9 (i := 4) hx hb hK hL (by omega) dL_law_766 ?_
                        refine x_top (y := (bI (wOn (sW M)))) (hR.2.2.2.2.1) ?_
                        refine lv_iconst (v := nI 1) hx hb dL_law_767 (by decide) ?_
                        refine lv_icmp_ne (tgt := 775) hx hb dL_law_768 (by decide) (fun c768 => ?_) (fun c768 => ?_)
                        · have hoff := bI_n1 c768
                          refine lv_iconst (v := nI 0) hx hb dL_law_775 (by decide) ?_
                          refine lv_istore (lv' := [(24, .int (nI 0)), (23, .int (bI (hitA (sE M) ox kx n9))), (22, .int (nI ox)), (21, .int (bI hv)), (20, .int (nI 1)), (19, .int vx), (18, .int (nI px)), (17, .int (handle (sE M) kx)), (16, .int (nI ox)), (15, .int (nI kx)), (14, .int (nI kd9)), (13, .int z), (12, .int x), (11, .int (nI k)), (10, .ref (g + 9)), (9, .ref (g + 8)), (8, .ref (g + 7)), (7, .ref (g + 6)), (6, .ref (g + 5)), (5, .ref (g + 4)), (4, .ref (g + 3)), (3, .ref (g + 2)), (2, .ref (g + 1)), (1, .ref b0), (0, .ref b)]) hx hb dL_law_776 hl (by decide) rfl (fun ls hl => ?_)
                          refine lv_iload hx hb dL_law_778 (lv_at hl 0 rfl) ?_
                          refine y_if_le hx hb (by decide) (tgt := 803) dL_law_780 (by decide) (fun c780 => ?_) (fun c780 => ?_)
                          · refine lv_aload_n hx hb dL_law_803 rfl (lv_at hl 22 rfl) ?_
                            refine lv_bipush (v := nI 6) hx hb dL_law_804 (by decide) ?_
                            refine lv_iload hx hb dL_law_806 (lv_at hl 9 rfl) ?_
                            refine y_imul hx hb dL_law_808 ?_
                            refine lv_iconst (v := nI 3) hx hb dL_law_809 (by decide) ?_
                            refine y_iadd hx hb dL_law_810 ?_
                            refine n_ld1 (i := (6 * kx) + 3) hx hb hK hL (by omega) dL_law_811 ?_
                            refine x_top (y := (nO (mPar (sE M) kx))) (hT.1.2.2.2.1 kx hkx hal) ?_
                            refine lv_aload_n hx hb dL_law_812 rfl (lv_at hl 22 rfl) ?_
                            refine k_iN (k_S (As := [.int (nO (mPar (sE M) kx)), .ref (g + 1)]) (rest := []) ⟨hx, hb, hml, hown, hts⟩ hev hS (c_L_handleO l hL hT.1 (fun p9 hp => h10 p9 (iE.2.2.2.1 kx p9 hp))) (va_cwS 2 hts gL_law_L_handle rfl rfl rfl (by decide +kernel) ⟨Nat.le_of_ble_eq_true rfl, Nat.le_of_ble_eq_true rfl⟩) rfl hl.1 (Nat.le_of_ble_eq_true rfl) dL_law_813 (by show _ ≤ (704995 : Nat); omega) (by show _ ≤ (6986640 : Nat); omega)) hS (fun rq2_ H2 locs2 hP hz2 hS => ?_)
                            refine W.widen (k := 200 + 4400 * k) (n := 5000 + 50000 * k) (Nat.le_refl _) (Nat.le_refl _) ?_
                            have hPK : PK D T dE b0 (fun q : Nat => s.heap.size ≤ q) g Y M H2 := by rw [hP.1]; exact hPK
                            have hL := hPK.sl
                            refine x_top (y := (hdlO (sE M) (mPar (sE M) kx))) (hP.2) ?_
                            refine lv_istore (lv' := [(25, .int (hdlO (sE M) (mPar (sE M) kx))), (24, .int (nI 0)), (23, .int (bI (hitA (sE M) ox kx n9))), (22, .int (nI ox)), (21, .int (bI hv)), (20, .int (nI 1)), (19, .int vx), (18, .int (nI px)), (17, .int (handle (sE M) kx)), (16, .int (nI ox)), (15, .int (nI kx)), (14, .int (nI kd9)), (13, .int z), (12, .int x), (11, .int (nI k)), (10, .ref (g + 9)), (9, .ref (g + 8)), (8, .ref (g + 7)), (7, .ref (g + 6)), (6, .ref (g + 5)), (5, .ref (g + 4)), (4, .ref (g + 3)), (3, .ref (g + 2)), (2, .ref (g + 1)), (1, .ref b0), (0, .ref b)]) hx hb dL_law_816 hl (by decide) rfl (fun ls hl => ?_)
                            refine lv_aload_n hx hb dL_law_818 rfl (lv_at hl 23 rfl) ?_
                            refine lv_bipush (v := nI 6) hx hb dL_law_819 (by decide) ?_
                            refine lv_iload hx hb dL_law_821 (lv_at hl 10 rfl) ?_
                            refine y_imul hx hb dL_law_823 ?_
                            refine lv_iconst (v := nI 3) hx hb dL_law_824 (by decide) ?_
                            refine y_iadd hx hb dL_law_825 ?_
                            refine lv_iload hx hb dL_law_826 (lv_at hl 3 rfl) ?_
                            refine n_st1 (i := (6 * kx) + 3) (v := (nI ox)) hx hb hK hS hL hAS (by omega) dL_law_828 (fun H3 locs3 hL hz3 hq3 hS => ?_)
                            have hPK := hPK.w hL (Nat.le_of_eq hz3.symm) (fun q _ zz => hq3 q zz)
                            obtain ⟨Y3, hPK, hL, hY3⟩ : ∃ Yn, PK D T dE b0 (fun q : Nat => s.heap.size ≤ q) g Yn M H3 ∧ SL T g Yn H3 ∧ Yn = up2 Y 1 (upd (Y 1) ((6 * kx) + 3) (nI ox)) := ⟨_, hPK, hL, rfl⟩
                            have hT6 : LTw Y3 (adE (sE M) kx (some ox)) (sR M) := hT.par (by rw [hY3]; rfl) (fun j hj => by rw [hY3]; simp only [up2, if_neg hj])
                            refine lv_aload_n hx hb dL_law_829 rfl (lv_at hl 24 rfl) ?_
                            refine lv_iload hx hb dL_law_830 (lv_at hl 8 rfl) ?_
                            refine lv_iload hx hb dL_law_832 (lv_at hl 3 rfl) ?_
                            refine lv_aload_n hx hb dL_law_834 rfl (lv_at hl 23 rfl) ?_
                            refine k_iN (k_S (As := [.int (nI ox), .ref (g + 1)]) (rest := [.int (handle (sE M) kx), .ref b0]) ⟨hx, hb, hml, hown, hts⟩ hev hS (c_L_handle l hL hT6.1 hox) (va_cwS 2 hts gL_law_L_handle rfl rfl rfl (by decide +kernel) ⟨Nat.le_of_ble_eq_true rfl, Nat.le_of_ble_eq_true rfl⟩) rfl hl.1 (Nat.le_of_ble_eq_true rfl) dL_law_835 (by show _ ≤ (704995 : Nat); omega) (by show _ ≤ (6986640 : Nat); omega)) hS (fun rq4_ H4 locs4 hP hz4 hS => ?_)
                            refine W.widen (k := 200 + 4400 * k) (n := 5000 + 50000 * k) (Nat.le_refl _) (Nat.le_refl _) ?_
                            have hPK : PK D T dE b0 (fun q : Nat => s.heap.size ≤ q) g Y3 M H4 := by rw [hP.1]; exact hPK
                            have hL := hPK.sl
                            refine x_top (y := (handle (sE M) ox)) (hP.2) ?_
                            refine k_iN (k_V (As := [.int (handle (sE M) kx), .int (handle (sE M) ox)]) (rest := []) ⟨hx, hb, hml, hown, hts⟩ hev hS (w_adopt l hst hPK hI (handle (sE M) kx) (handle (sE M) ox) (by rw [(ap_s hlk (hdl_m1 (by omega) hh) hlo ((hitA_goes ho9).trans hbel)).trans (if_neg (by rw [hoff]; decide))])) (cwV 2 hts gL_law_X6_adopt rfl rfl rfl (by decide +kernel) ⟨Nat.le_of_ble_eq_true rfl, Nat.le_of_ble_eq_true rfl⟩) (pk_recv hK hPK) rfl hl.1 (Nat.le_of_ble_eq_true rfl) dL_law_838 (by show _ ≤ (704995 : Nat); omega) (by show _ ≤ (6986640 : Nat); omega)) hS (fun rq5_ H5 locs5 hP hz5 hS => ?_)
                            rw [(ap_s hlk (hdl_m1 (by omega) hh) hlo ((hitA_goes ho9).trans hbel)).trans (if_neg (by rw [hoff]; decide))] at hP
                            have er := hP.1
                            have hPK := hP.2
                            have hL := hPK.sl
                            refine x_top (y := (hdlO (sE M) (mPar (sE M) kx))) (er) ?_
                            have hI8 : Inv (800 * (k + 1)) (wE M (adE (sE M) kx (some ox))) := by have := i_adopt hI (handle (sE M) kx) (handle (sE M) ox); rw [(ap_s hlk (hdl_m1 (by omega) hh) hlo ((hitA_goes ho9).trans hbel)).trans (if_neg (by rw [hoff]; decide))] at this; exact this.mono (by omega) (by omega)
                            have hR8 : LRel Y3 (wE M (adE (sE M) kx (some ox))) := hR.e rfl hT6 (fun j h1 h2 h3 => by rw [hY3]; simp only [up2, if_neg h1])
                            refine lv_iload hx hb dL_law_841 (lv_at hl 0 rfl) ?_
                            refine lv_icmp_eq (tgt := 848) hx hb dL_law_843 (by decide) (fun c843 => ?_) (fun c843 => ?_)
                            · refine lv_goto (tgt := 1955) hx hb dL_law_848 (by decide) ?_
                              refine W.widen (k := 200 + 4400 * k + 300) (n := 5000 + 50000 * k + 5400) (by omega) (by omega) ?_
                              exact hchk _ _ _ _ ls hPK hR8 hI8 hS (lv_sub hl [14, 15, 16, 17, 18, 19, 20, 21, 22, 23, 24, 25] rfl)
                            · exact absurd rfl c843
                          · exact absurd c780 (by decide)
                        · have hon := bI_e1 c768
                          refine lv_iconst (v := nI 3) hx hb dL_law_771 (by decide) ?_
                          refine lv_goto (tgt := 776) hx hb dL_law_772 (by decide) ?_
                          refine lv_istore (lv' := [(24, .int (nI 3)), (23, .int (bI (hitA (sE M) ox kx n9))), (22, .int (nI ox)), (21, .int (bI hv)), (20, .int (nI 1)), (19, .int vx), (18, .int (nI px)), (17, .int (handle (sE M) kx)), (16, .int (nI ox)), (15, .int (nI kx)), (14, .int (nI kd9)), (13, .int z), (12, .int x), (11, .int (nI k)), (10, .ref (g + 9)), (9, .ref (g + 8)), (8, .ref (g + 7)), (7, .ref (g + 6)), (6, .ref (g + 5)), (5, .ref (g + 4)), (4, .ref (g + 3)), (3, .ref (g + 2)), (2, .ref (g + 1)), (1, .ref b0), (0, .ref b)]) hx hb dL_law_776 hl (by decide) rfl (fun ls hl => ?_)
                          refine lv_iload hx hb dL_law_778 (lv_at hl 0 rfl) ?_
                          refine y_if_le hx hb (by decide) (tgt := 803) dL_law_780 (by decide) (fun c780 => ?_) (fun c780 => ?_)
                          · exact absurd c780 (by decide)
                          · refine lv_aload_n hx hb dL_law_783 rfl (lv_at hl 23 rfl) ?_
                            refine lv_iconst (v := nI 2) hx hb dL_law_784 (by decide) ?_
                            refine lv_iload hx hb dL_law_785 (lv_at hl 7 rfl) ?_
                            refine lv_iload hx hb dL_law_787 (lv_at hl 2 rfl) ?_
                            refine lv_aload_n hx hb dL_law_789 rfl (lv_at hl 22 rfl) ?_
                            refine k_iN (k_S (As := [.int (nI ox), .ref (g + 1)]) (rest := [.int (handle (sE M) kx), .int (nI 2), .ref b0]) ⟨hx, hb, hml, hown, hts⟩ hev hS (c_L_handle l hL hT.1 hox) (va_cwS 2 hts gL_law_L_handle rfl rfl rfl (by decide +kernel) ⟨Nat.le_of_ble_eq_true rfl, Nat.le_of_ble_eq_true rfl⟩) rfl hl.1 (Nat.le_of_ble_eq_true rfl) dL_law_790 (by show _ ≤ (704995 : Nat); omega) (by show _ ≤ (6986640 : Nat); omega)) hS (fun rq6_ H6 locs6 hP hz6 hS => ?_)
                            refine W.widen (k := 200 + 4400 * k) (n := 5000 + 50000 * k) (Nat.le_refl _) (Nat.le_refl _) ?_
                            have hPK : PK D T dE b0 (fun q : Nat => s.heap.size ≤ q) g Y M H6 := by rw [hP.1]; exact hPK
                            have hL := hPK.sl
                            refine x_top (y := (handle (sE M) ox)) (hP.2) ?_
                            refine k_iN (k_SW (As := [.ref b0, .int (nI 2), .int (handle (sE M) kx), .int (handle (sE M) ox)]) (rest := []) ⟨hx, hb, hml, hown, hts⟩ hev hS (r_L2 l hst hPK hI (handle (sE M) kx) (handle (sE M) ox) (w := 3) (by rw [(ap_s hlk (hdl_m1 (by omega) hh) hlo ((hitA_goes ho9).trans hbel)).trans (if_pos hon)]; show ¬ (3 : Nat) = 0; decide) (by rw [(ap_s hlk (hdl_m1 (by omega) hh) hlo ((hitA_goes ho9).trans hbel)).trans (if_pos hon)]; rfl)) (vx_cwSW 4 hts gL_law_L_refused rfl rfl rfl (by decide +kernel) ⟨Nat.le_of_ble_eq_true rfl, Nat.le_of_ble_eq_true rfl⟩) rfl hl.1 (Nat.le_of_ble_eq_true rfl) dL_law_793 (by show _ ≤ (704995 : Nat); omega) (by show _ ≤ (6986640 : Nat); omega)) hS (fun rq7_ H7 locs7 hP hz7 hS => ?_)
                            have er := hP.1
                            have hPK := hP.2
                            have hL := hPK.sl
                            refine x_top (y := (nI 3)) (er) ?_
                            refine lv_iload hx hb dL_law_796 (lv_at hl 0 rfl) ?_
                            refine y_icmp_eq hx hb (by decide) (by decide) (tgt := 1986) dL_law_798 (by decide) (fun c798 => ?_) (fun c798 => ?_)
                            · refine W.widen (k := 200 + 4400 * (k + 1)) (n := 5000 + 50000 * (k + 1)) (by omega) (by omega) ?_
                              exact hnxt _ _ _ _ ls hPK hR (hI.mono (by omega) (by omega)) hS (lv_sub hl [13, 14, 15, 16, 17, 18, 19, 20, 21, 22, 23, 24] rfl)
                            · exact absurd c798 (by decide)
                      · have hbel := c756
                        refine lv_iconst (v := nI 2) hx hb dL_law_759 (by decide) ?_
                        refine lv_goto (tgt := 776) hx hb dL_law_760 (by decide) ?_
                        refine lv_istore (lv' := [(24, .int (nI 2)), (23, .int (bI (hitA (sE M) ox kx n9))), (22, .int (nI ox)), (21, .int (bI hv)), (20, .int (nI 1)), (19, .int vx), (18, .int (nI px)), (17, .int (handle (sE M) kx)), (16, .int (nI ox)), (15, .int (nI kx)), (14, .int (nI kd9)), (13, .int z), (12, .int x), (11, .int (nI k)), (10, .ref (g + 9)), (9, .ref (g + 8)), (8, .ref (g + 7)), (7, .ref (g + 6)), (6, .ref (g + 5)), (5, .ref (g + 4)), (4, .ref (g + 3)), (3, .ref (g + 2)), (2, .ref (g + 1)), (1, .ref b0), (0, .ref b)]) hx hb dL_law_776 hl (by decide) rfl (fun ls hl => ?_)
                        refine lv_iload hx hb dL_law_778 (lv_at hl 0 rfl) ?_
                        refine y_if_le hx hb (by decide) (tgt := 803) dL_law_780 (by decide) (fun c780 => ?_) (fun c780 => ?_)
                        · exact absurd c780 (by decide)
                        · refine lv_aload_n hx hb dL_law_783 rfl (lv_at hl 23 rfl) ?_
                          refine lv_iconst (v := nI 2) hx hb dL_law_784 (by decide) ?_
                          refine lv_iload hx hb dL_law_785 (lv_at hl 7 rfl) ?_
                          refine lv_iload hx hb dL_law_787 (lv_at hl 2 rfl) ?_
                          refine lv_aload_n hx hb dL_law_789 rfl (lv_at hl 22 rfl) ?_
                          refine k_iN (k_S (As := [.int (nI ox), .ref (g + 1)]) (rest := [.int (handle (sE M) kx), .int (nI 2), .ref b0]) ⟨hx, hb, hml, hown, hts⟩ hev hS (c_L_handle l hL hT.1 hox) (va_cwS 2 hts gL_law_L_handle rfl rfl rfl (by decide +kernel) ⟨Nat.le_of_ble_eq_true rfl, Nat.le_of_ble_eq_true rfl⟩) rfl hl.1 (Nat.le_of_ble_eq_true rfl) dL_law_790 (by show _ ≤ (704995 : Nat); omega) (by show _ ≤ (6986640 : Nat); omega)) hS (fun rq8_ H8 locs8 hP hz8 hS => ?_)
                          refine W.widen (k := 200 + 4400 * k) (n := 5000 + 50000 * k) (Nat.le_refl _) (Nat.le_refl _) ?_
                          have hPK : PK D T dE b0 (fun q : Nat => s.heap.size ≤ q) g Y M H8 := by rw [hP.1]; exact hPK
                          have hL := hPK.sl
                          refine x_top (y := (handle (sE M) ox)) (hP.2) ?_
                          refine k_iN (k_SW (As := [.ref b0, .int (nI 2), .int (handle (sE M) kx), .int (handle (sE M) ox)]) (rest := []) ⟨hx, hb, hml, hown, hts⟩ hev hS (r_L2 l hst hPK hI (handle (sE M) kx) (handle (sE M) ox) (w := 2) (by rw [ap_2 hlk (hdl_m1 (by omega) hh) hlo ((hitA_goes ho9).trans hbel)]; show ¬ (2 : Nat) = 0; decide) (by rw [ap_2 hlk (hdl_m1 (by omega) hh) hlo ((hitA_goes ho9).trans hbel)]; rfl)) (vx_cwSW 4 hts gL_law_L_refused rfl rfl rfl (by decide +kernel) ⟨Nat.le_of_ble_eq_true rfl, Nat.le_of_ble_eq_true rfl⟩) rfl hl.1 (Nat.le_of_ble_eq_true rfl) dL_law_793 (by show _ ≤ (704995 : Nat); omega) (by show _ ≤ (6986640 : Nat); omega)) hS (fun rq9_ H9 locs9 hP hz9 hS => ?_)
                          have er := hP.1
                          have hPK := hP.2
                          have hL := hPK.sl
                          refine x_top (y := (nI 2)) (er) ?_
                          refine lv_iload hx hb dL_law_796 (lv_at hl 0 rfl) ?_
                          refine y_icmp_eq hx hb (by decide) (by decide) (tgt := 1986) dL_law_798 (by decide) (fun c798 => ?_) (fun c798 => ?_)
                          · refine W.widen (k := 200 + 4400 * (k + 1)) (n := 5000 + 50000 * (k + 1)) (by omega) (by omega) ?_
                            exact hnxt _ _ _ _ ls hPK hR (hI.mono (by omega) (by omega)) hS (lv_sub hl [13, 14, 15, 16, 17, 18, 19, 20, 21, 22, 23, 24] rfl)
                          · exact absurd c798 (by decide)
                    · exact absurd c747 (by decide)
              · have hl : lv_has ls 26 [(24, .int ((-1))), (23, .int (bI (hitA (sE M) ox kx n9))), (22, .int (nI ox)), (21, .int (bI hv)), (20, .int (nI 0)), (19, .int vx), (18, .int (nI px)), (17, .int (handle (sE M) kx)), (16, .int (nI ox)), (15, .int (nI kx)), (14, .int (nI kd9)), (13, .int z), (12, .int x), (11, .int (nI k)), (10, .ref (g + 9)), (9, .ref (g + 8)), (8, .ref (g + 7)), (7, .ref (g + 6)), (6, .ref (g + 5)), (5, .ref (g + 4)), (4, .ref (g + 3)), (3, .ref (g + 2)), (2, .ref (g + 1)), (1, .ref b0), (0, .ref b)] := by
                  have e9 : (bI (mAl (sE M) kx)) = (nI 0) := by rw [hal]; rfl
                  first
                    | (rw [← e9]; exact hl)
                    | (rw [e9] at hl; exact hl)
                have hlk := look_d (show kx < 32 by omega) hal hh
                refine lv_iload hx hb dL_law_730 (lv_at hl 4 rfl) ?_
                refine y_if_eq hx hb (by decide) (tgt := 750) dL_law_732 (by decide) (fun c732 => ?_) (fun c732 => ?_)
                · refine lv_iconst (v := nI 1) hx hb dL_law_750 (by decide) ?_
                  refine lv_goto (tgt := 776) hx hb dL_law_751 (by decide) ?_
                  refine lv_istore (lv' := [(24, .int (nI 1)), (23, .int (bI (hitA (sE M) ox kx n9))), (22, .int (nI ox)), (21, .int (bI hv)), (20, .int (nI 0)), (19, .int vx), (18, .int (nI px)), (17, .int (handle (sE M) kx)), (16, .int (nI ox)), (15, .int (nI kx)), (14, .int (nI kd9)), (13, .int z), (12, .int x), (11, .int (nI k)), (10, .ref (g + 9)), (9, .ref (g + 8)), (8, .ref (g + 7)), (7, .ref (g + 6)), (6, .ref (g + 5)), (5, .ref (g + 4)), (4, .ref (g + 3)), (3, .ref (g + 2)), (2, .ref (g + 1)), (1, .ref b0), (0, .ref b)]) hx hb dL_law_776 hl (by decide) rfl (fun ls hl => ?_)
                  refine lv_iload hx hb dL_law_778 (lv_at hl 0 rfl) ?_
                  refine y_if_le hx hb (by decide) (tgt := 803) dL_law_780 (by decide) (fun c780 => ?_) (fun c780 => ?_)
                  · exact absurd c780 (by decide)
                  · refine lv_aload_n hx hb dL_law_783 rfl (lv_at hl 23 rfl) ?_
                    refine lv_iconst (v := nI 2) hx hb dL_law_784 (by decide) ?_
                    refine lv_iload hx hb dL_law_785 (lv_at hl 7 rfl) ?_
                    refine lv_iload hx hb dL_law_787 (lv_at hl 2 rfl) ?_
                    refine lv_aload_n hx hb dL_law_789 rfl (lv_at hl 22 rfl) ?_
                    refine k_iN (k_S (As := [.int (nI ox), .ref (g + 1)]) (rest := [.int (handle (sE M) kx), .int (nI 2), .ref b0]) ⟨hx, hb, hml, hown, hts⟩ hev hS (c_L_handle l hL hT.1 hox) (va_cwS 2 hts gL_law_L_handle rfl rfl rfl (by decide +kernel) ⟨Nat.le_of_ble_eq_true rfl, Nat.le_of_ble_eq_true rfl⟩) rfl hl.1 (Nat.le_of_ble_eq_true rfl) dL_law_790 (by show _ ≤ (704995 : Nat); omega) (by show _ ≤ (6986640 : Nat); omega)) hS (fun rq10_ H10 locs10 hP hz10 hS => ?_)
                    refine W.widen (k := 200 + 4400 * k) (n := 5000 + 50000 * k) (Nat.le_refl _) (Nat.le_refl _) ?_
                    have hPK : PK D T dE b0 (fun q : Nat => s.heap.size ≤ q) g Y M H10 := by rw [hP.1]; exact hPK
                    have hL := hPK.sl
                    refine x_top (y := (handle (sE M) ox)) (hP.2) ?_
                    refine k_iN (k_SW (As := [.ref b0, .int (nI 2), .int (handle (sE M) kx), .int (handle (sE M) ox)]) (rest := []) ⟨hx, hb, hml, hown, hts⟩ hev hS (r_L2 l hst hPK hI (handle (sE M) kx) (handle (sE M) ox) (w := 1) (by rw [ap_1 hlk]; show ¬ (1 : Nat) = 0; decide) (by rw [ap_1 hlk]; rfl)) (vx_cwSW 4 hts gL_law_L_refused rfl rfl rfl (by decide +kernel) ⟨Nat.le_of_ble_eq_true rfl, Nat.le_of_ble_eq_true rfl⟩) rfl hl.1 (Nat.le_of_ble_eq_true rfl) dL_law_793 (by show _ ≤ (704995 : Nat); omega) (by show _ ≤ (6986640 : Nat); omega)) hS (fun rq11_ H11 locs11 hP hz11 hS => ?_)
                    have er := hP.1
                    have hPK := hP.2
                    have hL := hPK.sl
                    refine x_top (y := (nI 1)) (er) ?_
                    refine lv_iload hx hb dL_law_796 (lv_at hl 0 rfl) ?_
                    refine y_icmp_eq hx hb (by decide) (by decide) (tgt := 1986) dL_law_798 (by decide) (fun c798 => ?_) (fun c798 => ?_)
                    · refine W.widen (k := 200 + 4400 * (k + 1)) (n := 5000 + 50000 * (k + 1)) (by omega) (by omega) ?_
                      exact hnxt _ _ _ _ ls hPK hR (hI.mono (by omega) (by omega)) hS (lv_sub hl [13, 14, 15, 16, 17, 18, 19, 20, 21, 22, 23, 24] rfl)
                    · exact absurd c798 (by decide)
                · exact absurd c732 (by decide)
            · exact absurd (by decide) c685
          · have hl : lv_has ls 26 [(24, .int (nI u)), (23, .int (bI (hitA (sE M) ox kx n9))), (22, .int (nI ox)), (21, .int (bI hv)), (20, .int (bI (mAl (sE M) kx))), (19, .int vx), (18, .int (nI px)), (17, .int (handle (sE M) kx)), (16, .int (nI ox)), (15, .int (nI kx)), (14, .int (nI kd9)), (13, .int z), (12, .int x), (11, .int (nI k)), (10, .ref (g + 9)), (9, .ref (g + 8)), (8, .ref (g + 7)), (7, .ref (g + 6)), (6, .ref (g + 5)), (5, .ref (g + 4)), (4, .ref (g + 3)), (3, .ref (g + 2)), (2, .ref (g + 1)), (1, .ref b0), (0, .ref b)] := hl
            have hau := hal9 u rfl
            have hu10 := h10 u hau
            refine lv_iload hx hb dL_law_683 (lv_at hl 0 rfl) ?_
            refine y_if_lt hx hb (by omega) (tgt := 730) dL_law_685 (by decide) (fun c685 => ?_) (fun c685 => ?_)
            · exact c685.elim
            · refine lv_aload_n hx hb dL_law_688 rfl (lv_at hl 22 rfl) ?_
              refine lv_bipush (v := nI 6) hx hb dL_law_689 (by decide) ?_
              refine lv_iload hx hb dL_law_691 (lv_at hl 0 rfl) ?_
              refine y_imul hx hb dL_law_693 ?_
              refine n_ld1 (i := 6 * u) hx hb hK hL (by omega) dL_law_694 ?_
              refine x_top (y := (nI 1)) (by rw [hT.1.1 u hu10, hau]; rfl) ?_
              refine lv_iconst (v := nI 1) hx hb dL_law_695 (by decide) ?_
              refine y_icmp_ne hx hb (by decide) (by decide) (tgt := 730) dL_law_696 (by decide) (fun c696 => ?_) (fun c696 => ?_)
              · exact absurd c696 (by decide)
              · refine lv_iload hx hb dL_law_699 (lv_at hl 1 rfl) ?_
                refine lv_iload hx hb dL_law_701 (lv_at hl 0 rfl) ?_
                refine lv_iload hx hb dL_law_703 (lv_at hl 9 rfl) ?_
                refine y_icmp_ne hx hb (by omega) (by omega) (tgt := 712) dL_law_705 (by decide) (fun c705 => ?_) (fun c705 => ?_)
                · refine lv_iconst (v := nI 0) hx hb dL_law_712 (by decide) ?_
                  refine lv_ior hx hb dL_law_713 ?_
                  refine x_top (y := (bI (hitA (sE M) ox kx (n9 + 1)))) (by rw [hitA_st ho9, decide_eq_false c705, ← bI_or]; rfl) ?_
                  refine lv_istore (lv' := [(23, .int (bI (hitA (sE M) ox kx (n9 + 1)))), (24, .int (nI u)), (22, .int (nI ox)), (21, .int (bI hv)), (20, .int (bI (mAl (sE M) kx))), (19, .int vx), (18, .int (nI px)), (17, .int (handle (sE M) kx)), (16, .int (nI ox)), (15, .int (nI kx)), (14, .int (nI kd9)), (13, .int z), (12, .int x), (11, .int (nI k)), (10, .ref (g + 9)), (9, .ref (g + 8)), (8, .ref (g + 7)), (7, .ref (g + 6)), (6, .ref (g + 5)), (5, .ref (g + 4)), (4, .ref (g + 3)), (3, .ref (g + 2)), (2, .ref (g + 1)), (1, .ref b0), (0, .ref b)]) hx hb dL_law_714 hl (by decide) rfl (fun ls hl => ?_)
                  refine lv_aload_n hx hb dL_law_716 rfl (lv_at hl 22 rfl) ?_
                  refine lv_bipush (v := nI 6) hx hb dL_law_717 (by decide) ?_
                  refine lv_iload hx hb dL_law_719 (lv_at hl 1 rfl) ?_
                  refine y_imul hx hb dL_law_721 ?_
                  refine lv_iconst (v := nI 3) hx hb dL_law_722 (by decide) ?_
                  refine y_iadd hx hb dL_law_723 ?_
                  refine n_ld1 (i := (6 * u) + 3) hx hb hK hL (by omega) dL_law_724 ?_
                  refine x_top (y := (nO (mPar (sE M) u))) (hT.1.2.2.2.1 u hu10 hau) ?_
                  have hmu : muO dp (mPar (sE M) u) < muO dp (some u) := by
                    cases e9 : mPar (sE M) u with
                    | none => exact Nat.succ_pos _
                    | some v => exact Nat.succ_lt_succ (hdp u v e9)
                  refine lv_istore (lv' := [(24, .int (nO (mPar (sE M) u))), (23, .int (bI (hitA (sE M) ox kx (n9 + 1)))), (22, .int (nI ox)), (21, .int (bI hv)), (20, .int (bI (mAl (sE M) kx))), (19, .int vx), (18, .int (nI px)), (17, .int (handle (sE M) kx)), (16, .int (nI ox)), (15, .int (nI kx)), (14, .int (nI kd9)), (13, .int z), (12, .int x), (11, .int (nI k)), (10, .ref (g + 9)), (9, .ref (g + 8)), (8, .ref (g + 7)), (7, .ref (g + 6)), (6, .ref (g + 5)), (5, .ref (g + 4)), (4, .ref (g + 3)), (3, .ref (g + 2)), (2, .ref (g + 1)), (1, .ref b0), (0, .ref b)]) hx hb dL_law_725 hl (by decide) rfl (fun ls hl => ?_)
                  refine lv_goto (tgt := 683) hx hb dL_law_727 (by decide) ?_
                  exact ih683 (n9 + 1) (mPar (sE M) u) (by omega) (by show (anc (sE M) n9 ox).bind _ = _; rw [ho9]; rfl) (fun v hv9 => iE.2.2.2.1 u v hv9) ls (lv_sub hl [0, 1, 2, 3, 4, 5, 6, 7, 8, 9, 10, 11, 12, 13, 14, 15, 16, 17, 18, 19, 20, 21, 22, 23, 24] rfl)
                · refine lv_iconst (v := nI 1) hx hb dL_law_708 (by decide) ?_
                  refine lv_goto (tgt := 713) hx hb dL_law_709 (by decide) ?_
                  refine lv_ior hx hb dL_law_713 ?_
                  refine x_top (y := (bI (hitA (sE M) ox kx (n9 + 1)))) (by rw [hitA_st ho9, decide_eq_true c705, ← bI_or]; rfl) ?_
                  refine lv_istore (lv' := [(23, .int (bI (hitA (sE M) ox kx (n9 + 1)))), (24, .int (nI u)), (22, .int (nI ox)), (21, .int (bI hv)), (20, .int (bI (mAl (sE M) kx))), (19, .int vx), (18, .int (nI px)), (17, .int (handle (sE M) kx)), (16, .int (nI ox)), (15, .int (nI kx)), (14, .int (nI kd9)), (13, .int z), (12, .int x), (11, .int (nI k)), (10, .ref (g + 9)), (9, .ref (g + 8)), (8, .ref (g + 7)), (7, .ref (g + 6)), (6, .ref (g + 5)), (5, .ref (g + 4)), (4, .ref (g + 3)), (3, .ref (g + 2)), (2, .ref (g + 1)), (1, .ref b0), (0, .ref b)]) hx hb dL_law_714 hl (by decide) rfl (fun ls hl => ?_)
                  refine lv_aload_n hx hb dL_law_716 rfl (lv_at hl 22 rfl) ?_
                  refine lv_bipush (v := nI 6) hx hb dL_law_717 (by decide) ?_
                  refine lv_iload hx hb dL_law_719 (lv_at hl 1 rfl) ?_
                  refine y_imul hx hb dL_law_721 ?_
                  refine lv_iconst (v := nI 3) hx hb dL_law_722 (by decide) ?_
                  refine y_iadd hx hb dL_law_723 ?_
                  refine n_ld1 (i := (6 * u) + 3) hx hb hK hL (by omega) dL_law_724 ?_
                  refine x_top (y := (nO (mPar (sE M) u))) (hT.1.2.2.2.1 u hu10 hau) ?_
                  have hmu : muO dp (mPar (sE M) u) < muO dp (some u) := by
                    cases e9 : mPar (sE M) u with
                    | none => exact Nat.succ_pos _
                    | some v => exact Nat.succ_lt_succ (hdp u v e9)
                  refine lv_istore (lv' := [(24, .int (nO (mPar (sE M) u))), (23, .int (bI (hitA (sE M) ox kx (n9 + 1)))), (22, .int (nI ox)), (21, .int (bI hv)), (20, .int (bI (mAl (sE M) kx))), (19, .int vx), (18, .int (nI px)), (17, .int (handle (sE M) kx)), (16, .int (nI ox)), (15, .int (nI kx)), (14, .int (nI kd9)), (13, .int z), (12, .int x), (11, .int (nI k)), (10, .ref (g + 9)), (9, .ref (g + 8)), (8, .ref (g + 7)), (7, .ref (g + 6)), (6, .ref (g + 5)), (5, .ref (g + 4)), (4, .ref (g + 3)), (3, .ref (g + 2)), (2, .ref (g + 1)), (1, .ref b0), (0, .ref b)]) hx hb dL_law_725 hl (by decide) rfl (fun ls hl => ?_)
                  refine lv_goto (tgt := 683) hx hb dL_law_727 (by decide) ?_
                  exact ih683 (n9 + 1) (mPar (sE M) u) (by omega) (by show (anc (sE M) n9 ox).bind _ = _; rw [ho9]; rfl) (fun v hv9 => iE.2.2.2.1 u v hv9) ls (lv_sub hl [0, 1, 2, 3, 4, 5, 6, 7, 8, 9, 10, 11, 12, 13, 14, 15, 16, 17, 18, 19, 20, 21, 22, 23, 24] rfl)
      exact loop683 ((muO dp (some ox)) + 1) 0 (some ox) (Nat.lt_succ_self _) rfl (fun u hu => by rw [← Option.some.inj hu]; exact hao) ls (lv_sub hl [0, 1, 2, 3, 4, 5, 6, 7, 8, 9, 10, 11, 12, 13, 14, 15, 16, 17, 18, 19, 20, 21, 22, 23, 24] rfl)
    · have hlo := look_d (show ox < 32 by omega) hao hh
      refine lv_istore (lv' := [(22, .int (nI ox)), (21, .int (bI hv)), (20, .int (bI (mAl (sE M) kx))), (19, .int vx), (18, .int (nI px)), (17, .int (handle (sE M) kx)), (16, .int (nI ox)), (15, .int (nI kx)), (14, .int (nI kd9)), (13, .int z), (12, .int x), (11, .int (nI k)), (10, .ref (g + 9)), (9, .ref (g + 8)), (8, .ref (g + 7)), (7, .ref (g + 6)), (6, .ref (g + 5)), (5, .ref (g + 4)), (4, .ref (g + 3)), (3, .ref (g + 2)), (2, .ref (g + 1)), (1, .ref b0), (0, .ref b)]) hx hb dL_law_674 hl (by decide) rfl (fun ls hl => ?_)
      refine lv_iconst (v := nI 0) hx hb dL_law_676 (by decide) ?_
      refine lv_istore (lv' := [(23, .int (nI 0)), (22, .int (nI ox)), (21, .int (bI hv)), (20, .int (bI (mAl (sE M) kx))), (19, .int vx), (18, .int (nI px)), (17, .int (handle (sE M) kx)), (16, .int (nI ox)), (15, .int (nI kx)), (14, .int (nI kd9)), (13, .int z), (12, .int x), (11, .int (nI k)), (10, .ref (g + 9)), (9, .ref (g + 8)), (8, .ref (g + 7)), (7, .ref (g + 6)), (6, .ref (g + 5)), (5, .ref (g + 4)), (4, .ref (g + 3)), (3, .ref (g + 2)), (2, .ref (g + 1)), (1, .ref b0), (0, .ref b)]) hx hb dL_law_677 hl (by decide) rfl (fun ls hl => ?_)
      refine lv_iload hx hb dL_law_679 (lv_at hl 1 rfl) ?_
      refine lv_istore (lv' := [(24, .int (nI ox)), (23, .int (nI 0)), (22, .int (nI ox)), (21, .int (bI hv)), (20, .int (bI (mAl (sE M) kx))), (19, .int vx), (18, .int (nI px)), (17, .int (handle (sE M) kx)), (16, .int (nI ox)), (15, .int (nI kx)), (14, .int (nI kd9)), (13, .int z), (12, .int x), (11, .int (nI k)), (10, .ref (g + 9)), (9, .ref (g + 8)), (8, .ref (g + 7)), (7, .ref (g + 6)), (6, .ref (g + 5)), (5, .ref (g + 4)), (4, .ref (g + 3)), (3, .ref (g + 2)), (2, .ref (g + 1)), (1, .ref b0), (0, .ref b)]) hx hb dL_law_681 hl (by decide) rfl (fun ls hl => ?_)
      refine lv_iload hx hb dL_law_683 (lv_at hl 0 rfl) ?_
      refine y_if_lt hx hb (by omega) (tgt := 730) dL_law_685 (by decide) (fun c685 => ?_) (fun c685 => ?_)
      · exact c685.elim
      · refine lv_aload_n hx hb dL_law_688 rfl (lv_at hl 22 rfl) ?_
        refine lv_bipush (v := nI 6) hx hb dL_law_689 (by decide) ?_
        refine lv_iload hx hb dL_law_691 (lv_at hl 0 rfl) ?_
        refine y_imul hx hb dL_law_693 ?_
        refine n_ld1 (i := 6 * ox) hx hb hK hL (by omega) dL_law_694 ?_
        refine x_top (y := (nI 0)) (by rw [hT.1.1 ox hox, hao]; rfl) ?_
        refine lv_iconst (v := nI 1) hx hb dL_law_695 (by decide) ?_
        refine y_icmp_ne hx hb (by decide) (by decide) (tgt := 730) dL_law_696 (by decide) (fun c696 => ?_) (fun c696 => ?_)
        · rcases Bool.eq_false_or_eq_true (mAl (sE M) kx) with hal | hal
          · have hl : lv_has ls 26 [(24, .int (nI ox)), (23, .int (nI 0)), (22, .int (nI ox)), (21, .int (bI hv)), (20, .int (bI (mAl (sE M) kx))), (19, .int vx), (18, .int (nI px)), (17, .int (handle (sE M) kx)), (16, .int (nI ox)), (15, .int (nI kx)), (14, .int (nI kd9)), (13, .int z), (12, .int x), (11, .int (nI k)), (10, .ref (g + 9)), (9, .ref (g + 8)), (8, .ref (g + 7)), (7, .ref (g + 6)), (6, .ref (g + 5)), (5, .ref (g + 4)), (4, .ref (g + 3)), (3, .ref (g + 2)), (2, .ref (g + 1)), (1, .ref b0), (0, .ref b)] := hl
            have hl : lv_has ls 26 [(24, .int (nI ox)), (23, .int (nI 0)), (22, .int (nI ox)), (21, .int (bI hv)), (20, .int (nI 1)), (19, .int vx), (18, .int (nI px)), (17, .int (handle (sE M) kx)), (16, .int (nI ox)), (15, .int (nI kx)), (14, .int (nI kd9)), (13, .int z), (12, .int x), (11, .int (nI k)), (10, .ref (g + 9)), (9, .ref (g + 8)), (8, .ref (g + 7)), (7, .ref (g + 6)), (6, .ref (g + 5)), (5, .ref (g + 4)), (4, .ref (g + 3)), (3, .ref (g + 2)), (2, .ref (g + 1)), (1, .ref b0), (0, .ref b)] := by
              have e9 : (bI (mAl (sE M) kx)) = (nI 1) := by rw [hal]; rfl
              first
                | (rw [← e9]; exact hl)
                | (rw [e9] at hl; exact hl)
            have hlk := look_h (show kx < 32 by omega) hal hh
            have hk64 := iE.1 kx
            refine lv_iload hx hb dL_law_730 (lv_at hl 4 rfl) ?_
            refine y_if_eq hx hb (by decide) (tgt := 750) dL_law_732 (by decide) (fun c732 => ?_) (fun c732 => ?_)
            · exact absurd c732 (by decide)
            · refine lv_iload hx hb dL_law_735 (lv_at hl 2 rfl) ?_
              refine y_if_lt hx hb (by omega) (tgt := 754) dL_law_737 (by decide) (fun c737 => ?_) (fun c737 => ?_)
              · exact c737.elim
              · refine lv_aload_n hx hb dL_law_740 rfl (lv_at hl 22 rfl) ?_
                refine lv_bipush (v := nI 6) hx hb dL_law_741 (by decide) ?_
                refine lv_iload hx hb dL_law_743 (lv_at hl 2 rfl) ?_
                refine y_imul hx hb dL_law_745 ?_
                refine n_ld1 (i := 6 * ox) hx hb hK hL (by omega) dL_law_746 ?_
                refine x_top (y := (nI 0)) (by rw [hT.1.1 ox hox, hao]; rfl) ?_
                refine y_if_ne hx hb (by decide) (tgt := 754) dL_law_747 (by decide) (fun c747 => ?_) (fun c747 => ?_)
                · exact absurd c747 (by decide)
                · refine lv_iconst (v := nI 1) hx hb dL_law_750 (by decide) ?_
                  refine lv_goto (tgt := 776) hx hb dL_law_751 (by decide) ?_
                  refine lv_istore (lv' := [(24, .int (nI 1)), (23, .int (nI 0)), (22, .int (nI ox)), (21, .int (bI hv)), (20, .int (nI 1)), (19, .int vx), (18, .int (nI px)), (17, .int (handle (sE M) kx)), (16, .int (nI ox)), (15, .int (nI kx)), (14, .int (nI kd9)), (13, .int z), (12, .int x), (11, .int (nI k)), (10, .ref (g + 9)), (9, .ref (g + 8)), (8, .ref (g + 7)), (7, .ref (g + 6)), (6, .ref (g + 5)), (5, .ref (g + 4)), (4, .ref (g + 3)), (3, .ref (g + 2)), (2, .ref (g + 1)), (1, .ref b0), (0, .ref b)]) hx hb dL_law_776 hl (by decide) rfl (fun ls hl => ?_)
                  refine lv_iload hx hb dL_law_778 (lv_at hl 0 rfl) ?_
                  refine y_if_le hx hb (by decide) (tgt := 803) dL_law_780 (by decide) (fun c780 => ?_) (fun c780 => ?_)
                  · exact absurd c780 (by decide)
                  · refine lv_aload_n hx hb dL_law_783 rfl (lv_at hl 23 rfl) ?_
                    refine lv_iconst (v := nI 2) hx hb dL_law_784 (by decide) ?_
                    refine lv_iload hx hb dL_law_785 (lv_at hl 7 rfl) ?_
                    refine lv_iload hx hb dL_law_787 (lv_at hl 2 rfl) ?_
                    refine lv_aload_n hx hb dL_law_789 rfl (lv_at hl 22 rfl) ?_
                    refine k_iN (k_S (As := [.int (nI ox), .ref (g + 1)]) (rest := [.int (handle (sE M) kx), .int (nI 2), .ref b0]) ⟨hx, hb, hml, hown, hts⟩ hev hS (c_L_handle l hL hT.1 hox) (va_cwS 2 hts gL_law_L_handle rfl rfl rfl (by decide +kernel) ⟨Nat.le_of_ble_eq_true rfl, Nat.le_of_ble_eq_true rfl⟩) rfl hl.1 (Nat.le_of_ble_eq_true rfl) dL_law_790 (by show _ ≤ (704995 : Nat); omega) (by show _ ≤ (6986640 : Nat); omega)) hS (fun rq12_ H12 locs12 hP hz12 hS => ?_)
                    refine W.widen (k := 200 + 4400 * k) (n := 5000 + 50000 * k) (Nat.le_refl _) (Nat.le_refl _) ?_
                    have hPK : PK D T dE b0 (fun q : Nat => s.heap.size ≤ q) g Y M H12 := by rw [hP.1]; exact hPK
                    have hL := hPK.sl
                    refine x_top (y := (handle (sE M) ox)) (hP.2) ?_
                    refine k_iN (k_SW (As := [.ref b0, .int (nI 2), .int (handle (sE M) kx), .int (handle (sE M) ox)]) (rest := []) ⟨hx, hb, hml, hown, hts⟩ hev hS (r_L2 l hst hPK hI (handle (sE M) kx) (handle (sE M) ox) (w := 1) (by rw [ap_1b hlk (hdl_m1 (by omega) hh) hlo]; show ¬ (1 : Nat) = 0; decide) (by rw [ap_1b hlk (hdl_m1 (by omega) hh) hlo]; rfl)) (vx_cwSW 4 hts gL_law_L_refused rfl rfl rfl (by decide +kernel) ⟨Nat.le_of_ble_eq_true rfl, Nat.le_of_ble_eq_true rfl⟩) rfl hl.1 (Nat.le_of_ble_eq_true rfl) dL_law_793 (by show _ ≤ (704995 : Nat); omega) (by show _ ≤ (6986640 : Nat); omega)) hS (fun rq13_ H13 locs13 hP hz13 hS => ?_)
                    have er := hP.1
                    have hPK := hP.2
                    have hL := hPK.sl
                    refine x_top (y := (nI 1)) (er) ?_
                    refine lv_iload hx hb dL_law_796 (lv_at hl 0 rfl) ?_
                    refine y_icmp_eq hx hb (by decide) (by decide) (tgt := 1986) dL_law_798 (by decide) (fun c798 => ?_) (fun c798 => ?_)
                    · refine W.widen (k := 200 + 4400 * (k + 1)) (n := 5000 + 50000 * (k + 1)) (by omega) (by omega) ?_
                      exact hnxt _ _ _ _ ls hPK hR (hI.mono (by omega) (by omega)) hS (lv_sub hl [13, 14, 15, 16, 17, 18, 19, 20, 21, 22, 23, 24] rfl)
                    · exact absurd c798 (by decide)
          · have hl : lv_has ls 26 [(24, .int (nI ox)), (23, .int (nI 0)), (22, .int (nI ox)), (21, .int (bI hv)), (20, .int (nI 0)), (19, .int vx), (18, .int (nI px)), (17, .int (handle (sE M) kx)), (16, .int (nI ox)), (15, .int (nI kx)), (14, .int (nI kd9)), (13, .int z), (12, .int x), (11, .int (nI k)), (10, .ref (g + 9)), (9, .ref (g + 8)), (8, .ref (g + 7)), (7, .ref (g + 6)), (6, .ref (g + 5)), (5, .ref (g + 4)), (4, .ref (g + 3)), (3, .ref (g + 2)), (2, .ref (g + 1)), (1, .ref b0), (0, .ref b)] := by
              have e9 : (bI (mAl (sE M) kx)) = (nI 0) := by rw [hal]; rfl
              first
                | (rw [← e9]; exact hl)
                | (rw [e9] at hl; exact hl)
            have hlk := look_d (show kx < 32 by omega) hal hh
            refine lv_iload hx hb dL_law_730 (lv_at hl 4 rfl) ?_
            refine y_if_eq hx hb (by decide) (tgt := 750) dL_law_732 (by decide) (fun c732 => ?_) (fun c732 => ?_)
            · refine lv_iconst (v := nI 1) hx hb dL_law_750 (by decide) ?_
              refine lv_goto (tgt := 776) hx hb dL_law_751 (by decide) ?_
              refine lv_istore (lv' := [(24, .int (nI 1)), (23, .int (nI 0)), (22, .int (nI ox)), (21, .int (bI hv)), (20, .int (nI 0)), (19, .int vx), (18, .int (nI px)), (17, .int (handle (sE M) kx)), (16, .int (nI ox)), (15, .int (nI kx)), (14, .int (nI kd9)), (13, .int z), (12, .int x), (11, .int (nI k)), (10, .ref (g + 9)), (9, .ref (g + 8)), (8, .ref (g + 7)), (7, .ref (g + 6)), (6, .ref (g + 5)), (5, .ref (g + 4)), (4, .ref (g + 3)), (3, .ref (g + 2)), (2, .ref (g + 1)), (1, .ref b0), (0, .ref b)]) hx hb dL_law_776 hl (by decide) rfl (fun ls hl => ?_)
              refine lv_iload hx hb dL_law_778 (lv_at hl 0 rfl) ?_
              refine y_if_le hx hb (by decide) (tgt := 803) dL_law_780 (by decide) (fun c780 => ?_) (fun c780 => ?_)
              · exact absurd c780 (by decide)
              · refine lv_aload_n hx hb dL_law_783 rfl (lv_at hl 23 rfl) ?_
                refine lv_iconst (v := nI 2) hx hb dL_law_784 (by decide) ?_
                refine lv_iload hx hb dL_law_785 (lv_at hl 7 rfl) ?_
                refine lv_iload hx hb dL_law_787 (lv_at hl 2 rfl) ?_
                refine lv_aload_n hx hb dL_law_789 rfl (lv_at hl 22 rfl) ?_
                refine k_iN (k_S (As := [.int (nI ox), .ref (g + 1)]) (rest := [.int (handle (sE M) kx), .int (nI 2), .ref b0]) ⟨hx, hb, hml, hown, hts⟩ hev hS (c_L_handle l hL hT.1 hox) (va_cwS 2 hts gL_law_L_handle rfl rfl rfl (by decide +kernel) ⟨Nat.le_of_ble_eq_true rfl, Nat.le_of_ble_eq_true rfl⟩) rfl hl.1 (Nat.le_of_ble_eq_true rfl) dL_law_790 (by show _ ≤ (704995 : Nat); omega) (by show _ ≤ (6986640 : Nat); omega)) hS (fun rq14_ H14 locs14 hP hz14 hS => ?_)
                refine W.widen (k := 200 + 4400 * k) (n := 5000 + 50000 * k) (Nat.le_refl _) (Nat.le_refl _) ?_
                have hPK : PK D T dE b0 (fun q : Nat => s.heap.size ≤ q) g Y M H14 := by rw [hP.1]; exact hPK
                have hL := hPK.sl
                refine x_top (y := (handle (sE M) ox)) (hP.2) ?_
                refine k_iN (k_SW (As := [.ref b0, .int (nI 2), .int (handle (sE M) kx), .int (handle (sE M) ox)]) (rest := []) ⟨hx, hb, hml, hown, hts⟩ hev hS (r_L2 l hst hPK hI (handle (sE M) kx) (handle (sE M) ox) (w := 1) (by rw [ap_1 hlk]; show ¬ (1 : Nat) = 0; decide) (by rw [ap_1 hlk]; rfl)) (vx_cwSW 4 hts gL_law_L_refused rfl rfl rfl (by decide +kernel) ⟨Nat.le_of_ble_eq_true rfl, Nat.le_of_ble_eq_true rfl⟩) rfl hl.1 (Nat.le_of_ble_eq_true rfl) dL_law_793 (by show _ ≤ (704995 : Nat); omega) (by show _ ≤ (6986640 : Nat); omega)) hS (fun rq15_ H15 locs15 hP hz15 hS => ?_)
                have er := hP.1
                have hPK := hP.2
                have hL := hPK.sl
                refine x_top (y := (nI 1)) (er) ?_
                refine lv_iload hx hb dL_law_796 (lv_at hl 0 rfl) ?_
                refine y_icmp_eq hx hb (by decide) (by decide) (tgt := 1986) dL_law_798 (by decide) (fun c798 => ?_) (fun c798 => ?_)
                · refine W.widen (k := 200 + 4400 * (k + 1)) (n := 5000 + 50000 * (k + 1)) (by omega) (by omega) ?_
                  exact hnxt _ _ _ _ ls hPK hR (hI.mono (by omega) (by omega)) hS (lv_sub hl [13, 14, 15, 16, 17, 18, 19, 20, 21, 22, 23, 24] rfl)
                · exact absurd c798 (by decide)
            · exact absurd c732 (by decide)
        · exact absurd c696 (by decide)
  · refine lv_iconst (v := -1) hx hb dL_law_668 (by decide) ?_
    refine lv_goto (tgt := 674) hx hb dL_law_669 (by decide) ?_
    refine lv_istore (lv' := [(22, .int ((-1))), (21, .int (bI hv)), (20, .int (bI (mAl (sE M) kx))), (19, .int vx), (18, .int (nI px)), (17, .int (handle (sE M) kx)), (16, .int (nI ox)), (15, .int (nI kx)), (14, .int (nI kd9)), (13, .int z), (12, .int x), (11, .int (nI k)), (10, .ref (g + 9)), (9, .ref (g + 8)), (8, .ref (g + 7)), (7, .ref (g + 6)), (6, .ref (g + 5)), (5, .ref (g + 4)), (4, .ref (g + 3)), (3, .ref (g + 2)), (2, .ref (g + 1)), (1, .ref b0), (0, .ref b)]) hx hb dL_law_674 hl (by decide) rfl (fun ls hl => ?_)
    refine lv_iconst (v := nI 0) hx hb dL_law_676 (by decide) ?_
    refine lv_istore (lv' := [(23, .int (nI 0)), (22, .int ((-1))), (21, .int (bI hv)), (20, .int (bI (mAl (sE M) kx))), (19, .int vx), (18, .int (nI px)), (17, .int (handle (sE M) kx)), (16, .int (nI ox)), (15, .int (nI kx)), (14, .int (nI kd9)), (13, .int z), (12, .int x), (11, .int (nI k)), (10, .ref (g + 9)), (9, .ref (g + 8)), (8, .ref (g + 7)), (7, .ref (g + 6)), (6, .ref (g + 5)), (5, .ref (g + 4)), (4, .ref (g + 3)), (3, .ref (g + 2)), (2, .ref (g + 1)), (1, .ref b0), (0, .ref b)]) hx hb dL_law_677 hl (by decide) rfl (fun ls hl => ?_)
    refine lv_iload hx hb dL_law_679 (lv_at hl 1 rfl) ?_
    refine lv_istore (lv' := [(24, .int ((-1))), (23, .int (nI 0)), (22, .int ((-1))), (21, .int (bI hv)), (20, .int (bI (mAl (sE M) kx))), (19, .int vx), (18, .int (nI px)), (17, .int (handle (sE M) kx)), (16, .int (nI ox)), (15, .int (nI kx)), (14, .int (nI kd9)), (13, .int z), (12, .int x), (11, .int (nI k)), (10, .ref (g + 9)), (9, .ref (g + 8)), (8, .ref (g + 7)), (7, .ref (g + 6)), (6, .ref (g + 5)), (5, .ref (g + 4)), (4, .ref (g + 3)), (3, .ref (g + 2)), (2, .ref (g + 1)), (1, .ref b0), (0, .ref b)]) hx hb dL_law_681 hl (by decide) rfl (fun ls hl => ?_)
    refine lv_iload hx hb dL_law_683 (lv_at hl 0 rfl) ?_
    refine lv_if_lt (tgt := 730) hx hb dL_law_685 (by decide) (fun c685 => ?_) (fun c685 => ?_)
    · rcases Bool.eq_false_or_eq_true (mAl (sE M) kx) with hal | hal
      · have hl : lv_has ls 26 [(24, .int ((-1))), (23, .int (nI 0)), (22, .int ((-1))), (21, .int (bI hv)), (20, .int (bI (mAl (sE M) kx))), (19, .int vx), (18, .int (nI px)), (17, .int (handle (sE M) kx)), (16, .int (nI ox)), (15, .int (nI kx)), (14, .int (nI kd9)), (13, .int z), (12, .int x), (11, .int (nI k)), (10, .ref (g + 9)), (9, .ref (g + 8)), (8, .ref (g + 7)), (7, .ref (g + 6)), (6, .ref (g + 5)), (5, .ref (g + 4)), (4, .ref (g + 3)), (3, .ref (g + 2)), (2, .ref (g + 1)), (1, .ref b0), (0, .ref b)] := hl
        have hl : lv_has ls 26 [(24, .int ((-1))), (23, .int (nI 0)), (22, .int ((-1))), (21, .int (bI hv)), (20, .int (nI 1)), (19, .int vx), (18, .int (nI px)), (17, .int (handle (sE M) kx)), (16, .int (nI ox)), (15, .int (nI kx)), (14, .int (nI kd9)), (13, .int z), (12, .int x), (11, .int (nI k)), (10, .ref (g + 9)), (9, .ref (g + 8)), (8, .ref (g + 7)), (7, .ref (g + 6)), (6, .ref (g + 5)), (5, .ref (g + 4)), (4, .ref (g + 3)), (3, .ref (g + 2)), (2, .ref (g + 1)), (1, .ref b0), (0, .ref b)] := by
          have e9 : (bI (mAl (sE M) kx)) = (nI 1) := by rw [hal]; rfl
          first
            | (rw [← e9]; exact hl)
            | (rw [e9] at hl; exact hl)
        have hlk := look_h (show kx < 32 by omega) hal hh
        have hk64 := iE.1 kx
        refine lv_iload hx hb dL_law_730 (lv_at hl 4 rfl) ?_
        refine y_if_eq hx hb (by decide) (tgt := 750) dL_law_732 (by decide) (fun c732 => ?_) (fun c732 => ?_)
        · exact absurd c732 (by decide)
        · refine lv_iload hx hb dL_law_735 (lv_at hl 2 rfl) ?_
          refine lv_if_lt (tgt := 754) hx hb dL_law_737 (by decide) (fun c737 => ?_) (fun c737 => ?_)
          · refine lv_iload hx hb dL_law_754 (lv_at hl 1 rfl) ?_
            refine y_if_eq hx hb (by decide) (tgt := 763) dL_law_756 (by decide) (fun c756 => ?_) (fun c756 => ?_)
            · have hbel := c756
              refine lv_aload hx hb dL_law_763 (lv_at hl 14 rfl) ?_
              refine lv_iconst (v := nI 4) hx hb dL_law_765 (by decide) ?_
              refine n_ld9 (i := 4) hx hb hK hL (by omega) dL_law_766 ?_
              refine x_top (y := (bI (wOn (sW M)))) (hR.2.2.2.2.1) ?_
              refine lv_iconst (v := nI 1) hx hb dL_law_767 (by decide) ?_
              refine lv_icmp_ne (tgt := 775) hx hb dL_law_768 (by decide) (fun c768 => ?_) (fun c768 => ?_)
              · have hoff := bI_n1 c768
                refine lv_iconst (v := nI 0) hx hb dL_law_775 (by decide) ?_
                refine lv_istore (lv' := [(24, .int (nI 0)), (23, .int (nI 0)), (22, .int ((-1))), (21, .int (bI hv)), (20, .int (nI 1)), (19, .int vx), (18, .int (nI px)), (17, .int (handle (sE M) kx)), (16, .int (nI ox)), (15, .int (nI kx)), (14, .int (nI kd9)), (13, .int z), (12, .int x), (11, .int (nI k)), (10, .ref (g + 9)), (9, .ref (g + 8)), (8, .ref (g + 7)), (7, .ref (g + 6)), (6, .ref (g + 5)), (5, .ref (g + 4)), (4, .ref (g + 3)), (3, .ref (g + 2)), (2, .ref (g + 1)), (1, .ref b0), (0, .ref b)]) hx hb dL_law_776 hl (by decide) rfl (fun ls hl => ?_)
                refine lv_iload hx hb dL_law_778 (lv_at hl 0 rfl) ?_
                refine y_if_le hx hb (by decide) (tgt := 803) dL_law_780 (by decide) (fun c780 => ?_) (fun c780 => ?_)
                · refine lv_aload_n hx hb dL_law_803 rfl (lv_at hl 22 rfl) ?_
                  refine lv_bipush (v := nI 6) hx hb dL_law_804 (by decide) ?_
                  refine lv_iload hx hb dL_law_806 (lv_at hl 9 rfl) ?_
                  refine y_imul hx hb dL_law_808 ?_
                  refine lv_iconst (v := nI 3) hx hb dL_law_809 (by decide) ?_
                  refine y_iadd hx hb dL_law_810 ?_
                  refine n_ld1 (i := (6 * kx) + 3) hx hb hK hL (by omega) dL_law_811 ?_
                  refine x_top (y := (nO (mPar (sE M) kx))) (hT.1.2.2.2.1 kx hkx hal) ?_
                  refine lv_aload_n hx hb dL_law_812 rfl (lv_at hl 22 rfl) ?_
                  refine k_iN (k_S (As := [.int (nO (mPar (sE M) kx)), .ref (g + 1)]) (rest := []) ⟨hx, hb, hml, hown, hts⟩ hev hS (c_L_handleO l hL hT.1 (fun p9 hp => h10 p9 (iE.2.2.2.1 kx p9 hp))) (va_cwS 2 hts gL_law_L_handle rfl rfl rfl (by decide +kernel) ⟨Nat.le_of_ble_eq_true rfl, Nat.le_of_ble_eq_true rfl⟩) rfl hl.1 (Nat.le_of_ble_eq_true rfl) dL_law_813 (by show _ ≤ (704995 : Nat); omega) (by show _ ≤ (6986640 : Nat); omega)) hS (fun rq16_ H16 locs16 hP hz16 hS => ?_)
                  refine W.widen (k := 200 + 4400 * k) (n := 5000 + 50000 * k) (Nat.le_refl _) (Nat.le_refl _) ?_
                  have hPK : PK D T dE b0 (fun q : Nat => s.heap.size ≤ q) g Y M H16 := by rw [hP.1]; exact hPK
                  have hL := hPK.sl
                  refine x_top (y := (hdlO (sE M) (mPar (sE M) kx))) (hP.2) ?_
                  refine lv_istore (lv' := [(25, .int (hdlO (sE M) (mPar (sE M) kx))), (24, .int (nI 0)), (23, .int (nI 0)), (22, .int ((-1))), (21, .int (bI hv)), (20, .int (nI 1)), (19, .int vx), (18, .int (nI px)), (17, .int (handle (sE M) kx)), (16, .int (nI ox)), (15, .int (nI kx)), (14, .int (nI kd9)), (13, .int z), (12, .int x), (11, .int (nI k)), (10, .ref (g + 9)), (9, .ref (g + 8)), (8, .ref (g + 7)), (7, .ref (g + 6)), (6, .ref (g + 5)), (5, .ref (g + 4)), (4, .ref (g + 3)), (3, .ref (g + 2)), (2, .ref (g + 1)), (1, .ref b0), (0, .ref b)]) hx hb dL_law_816 hl (by decide) rfl (fun ls hl => ?_)
                  refine lv_aload_n hx hb dL_law_818 rfl (lv_at hl 23 rfl) ?_
                  refine lv_bipush (v := nI 6) hx hb dL_law_819 (by decide) ?_
                  refine lv_iload hx hb dL_law_821 (lv_at hl 10 rfl) ?_
                  refine y_imul hx hb dL_law_823 ?_
                  refine lv_iconst (v := nI 3) hx hb dL_law_824 (by decide) ?_
                  refine y_iadd hx hb dL_law_825 ?_
                  refine lv_iload hx hb dL_law_826 (lv_at hl 3 rfl) ?_
                  refine n_st1 (i := (6 * kx) + 3) (v := ((-1))) hx hb hK hS hL hAS (by omega) dL_law_828 (fun H17 locs17 hL hz17 hq17 hS => ?_)
                  have hPK := hPK.w hL (Nat.le_of_eq hz17.symm) (fun q _ zz => hq17 q zz)
                  obtain ⟨Y17, hPK, hL, hY17⟩ : ∃ Yn, PK D T dE b0 (fun q : Nat => s.heap.size ≤ q) g Yn M H17 ∧ SL T g Yn H17 ∧ Yn = up2 Y 1 (upd (Y 1) ((6 * kx) + 3) ((-1))) := ⟨_, hPK, hL, rfl⟩
                  have hT6 : LTw Y17 (adE (sE M) kx none) (sR M) := hT.par (by rw [hY17]; rfl) (fun j hj => by rw [hY17]; simp only [up2, if_neg hj])
                  refine lv_aload_n hx hb dL_law_829 rfl (lv_at hl 24 rfl) ?_
                  refine lv_iload hx hb dL_law_830 (lv_at hl 8 rfl) ?_
                  refine lv_iload hx hb dL_law_832 (lv_at hl 3 rfl) ?_
                  refine lv_aload_n hx hb dL_law_834 rfl (lv_at hl 23 rfl) ?_
                  refine k_iN (k_S (As := [.int ((-1)), .ref (g + 1)]) (rest := [.int (handle (sE M) kx), .ref b0]) ⟨hx, hb, hml, hown, hts⟩ hev hS (c_L_handleN l hL) (va_cwS 2 hts gL_law_L_handle rfl rfl rfl (by decide +kernel) ⟨Nat.le_of_ble_eq_true rfl, Nat.le_of_ble_eq_true rfl⟩) rfl hl.1 (Nat.le_of_ble_eq_true rfl) dL_law_835 (by show _ ≤ (704995 : Nat); omega) (by show _ ≤ (6986640 : Nat); omega)) hS (fun rq18_ H18 locs18 hP hz18 hS => ?_)
                  refine W.widen (k := 200 + 4400 * k) (n := 5000 + 50000 * k) (Nat.le_refl _) (Nat.le_refl _) ?_
                  have hPK : PK D T dE b0 (fun q : Nat => s.heap.size ≤ q) g Y17 M H18 := by rw [hP.1]; exact hPK
                  have hL := hPK.sl
                  refine x_top (y := ((-1))) (hP.2) ?_
                  refine k_iN (k_V (As := [.int (handle (sE M) kx), .int ((-1))]) (rest := []) ⟨hx, hb, hml, hown, hts⟩ hev hS (w_adopt l hst hPK hI (handle (sE M) kx) ((-1)) (by rw [(ap_n hlk).trans (if_neg (by rw [hoff]; decide))])) (cwV 2 hts gL_law_X6_adopt rfl rfl rfl (by decide +kernel) ⟨Nat.le_of_ble_eq_true rfl, Nat.le_of_ble_eq_true rfl⟩) (pk_recv hK hPK) rfl hl.1 (Nat.le_of_ble_eq_true rfl) dL_law_838 (by show _ ≤ (704995 : Nat); omega) (by show _ ≤ (6986640 : Nat); omega)) hS (fun rq19_ H19 locs19 hP hz19 hS => ?_)
                  rw [(ap_n hlk).trans (if_neg (by rw [hoff]; decide))] at hP
                  have er := hP.1
                  have hPK := hP.2
                  have hL := hPK.sl
                  refine x_top (y := (hdlO (sE M) (mPar (sE M) kx))) (er) ?_
                  have hI8 : Inv (800 * (k + 1)) (wE M (adE (sE M) kx none)) := by have := i_adopt hI (handle (sE M) kx) ((-1)); rw [(ap_n hlk).trans (if_neg (by rw [hoff]; decide))] at this; exact this.mono (by omega) (by omega)
                  have hR8 : LRel Y17 (wE M (adE (sE M) kx none)) := hR.e rfl hT6 (fun j h1 h2 h3 => by rw [hY17]; simp only [up2, if_neg h1])
                  refine lv_iload hx hb dL_law_841 (lv_at hl 0 rfl) ?_
                  refine lv_icmp_eq (tgt := 848) hx hb dL_law_843 (by decide) (fun c843 => ?_) (fun c843 => ?_)
                  · refine lv_goto (tgt := 1955) hx hb dL_law_848 (by decide) ?_
                    refine W.widen (k := 200 + 4400 * k + 300) (n := 5000 + 50000 * k + 5400) (by omega) (by omega) ?_
                    exact hchk _ _ _ _ ls hPK hR8 hI8 hS (lv_sub hl [14, 15, 16, 17, 18, 19, 20, 21, 22, 23, 24, 25] rfl)
                  · exact absurd rfl c843
                · exact absurd c780 (by decide)
              · have hon := bI_e1 c768
                refine lv_iconst (v := nI 3) hx hb dL_law_771 (by decide) ?_
                refine lv_goto (tgt := 776) hx hb dL_law_772 (by decide) ?_
                refine lv_istore (lv' := [(24, .int (nI 3)), (23, .int (nI 0)), (22, .int ((-1))), (21, .int (bI hv)), (20, .int (nI 1)), (19, .int vx), (18, .int (nI px)), (17, .int (handle (sE M) kx)), (16, .int (nI ox)), (15, .int (nI kx)), (14, .int (nI kd9)), (13, .int z), (12, .int x), (11, .int (nI k)), (10, .ref (g + 9)), (9, .ref (g + 8)), (8, .ref (g + 7)), (7, .ref (g + 6)), (6, .ref (g + 5)), (5, .ref (g + 4)), (4, .ref (g + 3)), (3, .ref (g + 2)), (2, .ref (g + 1)), (1, .ref b0), (0, .ref b)]) hx hb dL_law_776 hl (by decide) rfl (fun ls hl => ?_)
                refine lv_iload hx hb dL_law_778 (lv_at hl 0 rfl) ?_
                refine y_if_le hx hb (by decide) (tgt := 803) dL_law_780 (by decide) (fun c780 => ?_) (fun c780 => ?_)
                · exact absurd c780 (by decide)
                · refine lv_aload_n hx hb dL_law_783 rfl (lv_at hl 23 rfl) ?_
                  refine lv_iconst (v := nI 2) hx hb dL_law_784 (by decide) ?_
                  refine lv_iload hx hb dL_law_785 (lv_at hl 7 rfl) ?_
                  refine lv_iload hx hb dL_law_787 (lv_at hl 2 rfl) ?_
                  refine lv_aload_n hx hb dL_law_789 rfl (lv_at hl 22 rfl) ?_
                  refine k_iN (k_S (As := [.int ((-1)), .ref (g + 1)]) (rest := [.int (handle (sE M) kx), .int (nI 2), .ref b0]) ⟨hx, hb, hml, hown, hts⟩ hev hS (c_L_handleN l hL) (va_cwS 2 hts gL_law_L_handle rfl rfl rfl (by decide +kernel) ⟨Nat.le_of_ble_eq_true rfl, Nat.le_of_ble_eq_true rfl⟩) rfl hl.1 (Nat.le_of_ble_eq_true rfl) dL_law_790 (by show _ ≤ (704995 : Nat); omega) (by show _ ≤ (6986640 : Nat); omega)) hS (fun rq20_ H20 locs20 hP hz20 hS => ?_)
                  refine W.widen (k := 200 + 4400 * k) (n := 5000 + 50000 * k) (Nat.le_refl _) (Nat.le_refl _) ?_
                  have hPK : PK D T dE b0 (fun q : Nat => s.heap.size ≤ q) g Y M H20 := by rw [hP.1]; exact hPK
                  have hL := hPK.sl
                  refine x_top (y := ((-1))) (hP.2) ?_
                  refine k_iN (k_SW (As := [.ref b0, .int (nI 2), .int (handle (sE M) kx), .int ((-1))]) (rest := []) ⟨hx, hb, hml, hown, hts⟩ hev hS (r_L2 l hst hPK hI (handle (sE M) kx) ((-1)) (w := 3) (by rw [(ap_n hlk).trans (if_pos hon)]; show ¬ (3 : Nat) = 0; decide) (by rw [(ap_n hlk).trans (if_pos hon)]; rfl)) (vx_cwSW 4 hts gL_law_L_refused rfl rfl rfl (by decide +kernel) ⟨Nat.le_of_ble_eq_true rfl, Nat.le_of_ble_eq_true rfl⟩) rfl hl.1 (Nat.le_of_ble_eq_true rfl) dL_law_793 (by show _ ≤ (704995 : Nat); omega) (by show _ ≤ (6986640 : Nat); omega)) hS (fun rq21_ H21 locs21 hP hz21 hS => ?_)
                  have er := hP.1
                  have hPK := hP.2
                  have hL := hPK.sl
                  refine x_top (y := (nI 3)) (er) ?_
                  refine lv_iload hx hb dL_law_796 (lv_at hl 0 rfl) ?_
                  refine y_icmp_eq hx hb (by decide) (by decide) (tgt := 1986) dL_law_798 (by decide) (fun c798 => ?_) (fun c798 => ?_)
                  · refine W.widen (k := 200 + 4400 * (k + 1)) (n := 5000 + 50000 * (k + 1)) (by omega) (by omega) ?_
                    exact hnxt _ _ _ _ ls hPK hR (hI.mono (by omega) (by omega)) hS (lv_sub hl [13, 14, 15, 16, 17, 18, 19, 20, 21, 22, 23, 24] rfl)
                  · exact absurd c798 (by decide)
            · exact absurd c756 (by decide)
          · exact absurd (by decide) c737
      · have hl : lv_has ls 26 [(24, .int ((-1))), (23, .int (nI 0)), (22, .int ((-1))), (21, .int (bI hv)), (20, .int (nI 0)), (19, .int vx), (18, .int (nI px)), (17, .int (handle (sE M) kx)), (16, .int (nI ox)), (15, .int (nI kx)), (14, .int (nI kd9)), (13, .int z), (12, .int x), (11, .int (nI k)), (10, .ref (g + 9)), (9, .ref (g + 8)), (8, .ref (g + 7)), (7, .ref (g + 6)), (6, .ref (g + 5)), (5, .ref (g + 4)), (4, .ref (g + 3)), (3, .ref (g + 2)), (2, .ref (g + 1)), (1, .ref b0), (0, .ref b)] := by
          have e9 : (bI (mAl (sE M) kx)) = (nI 0) := by rw [hal]; rfl
          first
            | (rw [← e9]; exact hl)
            | (rw [e9] at hl; exact hl)
        have hlk := look_d (show kx < 32 by omega) hal hh
        refine lv_iload hx hb dL_law_730 (lv_at hl 4 rfl) ?_
        refine y_if_eq hx hb (by decide) (tgt := 750) dL_law_732 (by decide) (fun c732 => ?_) (fun c732 => ?_)
        · refine lv_iconst (v := nI 1) hx hb dL_law_750 (by decide) ?_
          refine lv_goto (tgt := 776) hx hb dL_law_751 (by decide) ?_
          refine lv_istore (lv' := [(24, .int (nI 1)), (23, .int (nI 0)), (22, .int ((-1))), (21, .int (bI hv)), (20, .int (nI 0)), (19, .int vx), (18, .int (nI px)), (17, .int (handle (sE M) kx)), (16, .int (nI ox)), (15, .int (nI kx)), (14, .int (nI kd9)), (13, .int z), (12, .int x), (11, .int (nI k)), (10, .ref (g + 9)), (9, .ref (g + 8)), (8, .ref (g + 7)), (7, .ref (g + 6)), (6, .ref (g + 5)), (5, .ref (g + 4)), (4, .ref (g + 3)), (3, .ref (g + 2)), (2, .ref (g + 1)), (1, .ref b0), (0, .ref b)]) hx hb dL_law_776 hl (by decide) rfl (fun ls hl => ?_)
          refine lv_iload hx hb dL_law_778 (lv_at hl 0 rfl) ?_
          refine y_if_le hx hb (by decide) (tgt := 803) dL_law_780 (by decide) (fun c780 => ?_) (fun c780 => ?_)
          · exact absurd c780 (by decide)
          · refine lv_aload_n hx hb dL_law_783 rfl (lv_at hl 23 rfl) ?_
            refine lv_iconst (v := nI 2) hx hb dL_law_784 (by decide) ?_
            refine lv_iload hx hb dL_law_785 (lv_at hl 7 rfl) ?_
            refine lv_iload hx hb dL_law_787 (lv_at hl 2 rfl) ?_
            refine lv_aload_n hx hb dL_law_789 rfl (lv_at hl 22 rfl) ?_
            refine k_iN (k_S (As := [.int ((-1)), .ref (g + 1)]) (rest := [.int (handle (sE M) kx), .int (nI 2), .ref b0]) ⟨hx, hb, hml, hown, hts⟩ hev hS (c_L_handleN l hL) (va_cwS 2 hts gL_law_L_handle rfl rfl rfl (by decide +kernel) ⟨Nat.le_of_ble_eq_true rfl, Nat.le_of_ble_eq_true rfl⟩) rfl hl.1 (Nat.le_of_ble_eq_true rfl) dL_law_790 (by show _ ≤ (704995 : Nat); omega) (by show _ ≤ (6986640 : Nat); omega)) hS (fun rq22_ H22 locs22 hP hz22 hS => ?_)
            refine W.widen (k := 200 + 4400 * k) (n := 5000 + 50000 * k) (Nat.le_refl _) (Nat.le_refl _) ?_
            have hPK : PK D T dE b0 (fun q : Nat => s.heap.size ≤ q) g Y M H22 := by rw [hP.1]; exact hPK
            have hL := hPK.sl
            refine x_top (y := ((-1))) (hP.2) ?_
            refine k_iN (k_SW (As := [.ref b0, .int (nI 2), .int (handle (sE M) kx), .int ((-1))]) (rest := []) ⟨hx, hb, hml, hown, hts⟩ hev hS (r_L2 l hst hPK hI (handle (sE M) kx) ((-1)) (w := 1) (by rw [ap_1 hlk]; show ¬ (1 : Nat) = 0; decide) (by rw [ap_1 hlk]; rfl)) (vx_cwSW 4 hts gL_law_L_refused rfl rfl rfl (by decide +kernel) ⟨Nat.le_of_ble_eq_true rfl, Nat.le_of_ble_eq_true rfl⟩) rfl hl.1 (Nat.le_of_ble_eq_true rfl) dL_law_793 (by show _ ≤ (704995 : Nat); omega) (by show _ ≤ (6986640 : Nat); omega)) hS (fun rq23_ H23 locs23 hP hz23 hS => ?_)
            have er := hP.1
            have hPK := hP.2
            have hL := hPK.sl
            refine x_top (y := (nI 1)) (er) ?_
            refine lv_iload hx hb dL_law_796 (lv_at hl 0 rfl) ?_
            refine y_icmp_eq hx hb (by decide) (by decide) (tgt := 1986) dL_law_798 (by decide) (fun c798 => ?_) (fun c798 => ?_)
            · refine W.widen (k := 200 + 4400 * (k + 1)) (n := 5000 + 50000 * (k + 1)) (by omega) (by omega) ?_
              exact hnxt _ _ _ _ ls hPK hR (hI.mono (by omega) (by omega)) hS (lv_sub hl [13, 14, 15, 16, 17, 18, 19, 20, 21, 22, 23, 24] rfl)
            · exact absurd c798 (by decide)
        · exact absurd c732 (by decide)
    · exact absurd (by decide) c685
