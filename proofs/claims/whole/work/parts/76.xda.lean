/-! the law's own calls of the class: what is thrown becomes a number; the answer goes to the array out, of tag 7 -/
def PW (D : va_G) (T : Nat → ClassId) (dE b : Nat) (A : Nat → Prop) (tg : Nat → Nat) (H : Heap) (ob : Nat) (o : mO) : Int32 → Heap → Prop := fun r H1 => (r = nI o.1 ∧ o.1 < 4) ∧ (∃ f1 : Nat → Int64, jc (T 4) H1 ob 1 f1 ∧ (o.1 = 0 → f1 0 = (o.2.1).toInt64)) ∧ ∃ tg1 : Nat → Nat, RepT D T dE b A tg1 H1 o.2.2 ∧ TX tg H tg1 ∧ FR tg (fun t => t ≠ 0 ∧ t ≠ 8) H H1
theorem RepT.out {D : va_G} {T : Nat → ClassId} {dE b w : Nat} {A : Nat → Prop} {tg : Nat → Nat} {H H1 : Heap} {M : mSt} (h : RepT D T dE b A tg H M) (f : FR tg (fun t => t = w) H H1) (hw : w = 7 ∨ w = 8) : RepT D T dE b A tg H1 M := by
  obtain ⟨y, zq, zy, wo, ⟨a1, a2, a3, a4⟩, h2, h3, h4, h5⟩ := h
  exact ⟨y, zq, zy, wo, ⟨a1.kept f.1, a2.keptF a1 f (by omega) (by omega), a3.keptF a1 f (by omega), a4.kept TX.rf f (fun t (z : t = w) => by omega)⟩, h2.kept TX.rf f (by omega) (by omega) (by omega) (by omega), h3.kept TX.rf f (by omega) (by omega) (by omega) (by omega), h4.kept TX.rf f (by omega) (fun t (z : t = w) => by omega), h5⟩
theorem RepT.tg {D : va_G} {T : Nat → ClassId} {dE b : Nat} {A : Nat → Prop} {tg : Nat → Nat} {H : Heap} {M : mSt} (h : RepT D T dE b A tg H M) : TG A b H tg := by
  obtain ⟨y, zq, zy, wo, h1, -⟩ := h
  exact h1.1
theorem mem1 {E c1 : String} {k : Nat} (h : (E, k) ∈ [(c1, 1)]) : E = c1 ∧ k = 1 := by
  rcases List.mem_cons.mp h with h | h
  · exact ⟨(Prod.mk.inj h).1, (Prod.mk.inj h).2⟩
  · exact (List.not_mem_nil h).elim
theorem mem2 {E c1 c2 : String} {k : Nat} (h : (E, k) ∈ [(c1, 1), (c2, 2)]) : (E = c1 ∧ k = 1) ∨ (E = c2 ∧ k = 2) := by
  rcases List.mem_cons.mp h with h | h
  · exact Or.inl ⟨(Prod.mk.inj h).1, (Prod.mk.inj h).2⟩
  · rcases List.mem_cons.mp h with h | h
    · exact Or.inr ⟨(Prod.mk.inj h).1, (Prod.mk.inj h).2⟩
    · exact (List.not_mem_nil h).elim
theorem mem2' {E c1 c2 : String} {k : Nat} (h : (E, k) ∈ [(c1, 2), (c2, 3)]) : (E = c1 ∧ k = 2) ∨ (E = c2 ∧ k = 3) := by
  rcases List.mem_cons.mp h with h | h
  · exact Or.inl ⟨(Prod.mk.inj h).1, (Prod.mk.inj h).2⟩
  · rcases List.mem_cons.mp h with h | h
    · exact Or.inr ⟨(Prod.mk.inj h).1, (Prod.mk.inj h).2⟩
    · exact (List.not_mem_nil h).elim
theorem mem3 {E c1 c2 c3 : String} {k : Nat} (h : (E, k) ∈ [(c1, 1), (c2, 2), (c3, 3)]) : (E = c1 ∧ k = 1) ∨ (E = c2 ∧ k = 2) ∨ (E = c3 ∧ k = 3) := by
  rcases List.mem_cons.mp h with h | h
  · exact Or.inl ⟨(Prod.mk.inj h).1, (Prod.mk.inj h).2⟩
  · exact Or.inr (mem2' h)
theorem es_make {M : mSt} : (oMake M).1 ≠ 0 → (oMake M).2.2 = M := by
  unfold oMake
  (repeat' split) <;> first | exact fun _ => rfl | exact fun h => absurd rfl h
theorem es_end {M : mSt} {x : Int32} : (oEnd M x).1 ≠ 0 → (oEnd M x).2.2 = M := by
  unfold oEnd
  (repeat' split) <;> first | exact fun _ => rfl | exact fun h => absurd rfl h
theorem es_adopt {M : mSt} {x x2 : Int32} : (oAdopt M x x2).1 ≠ 0 → (oAdopt M x x2).2.2 = M := by
  unfold oAdopt
  (repeat' split) <;> first | exact fun _ => rfl | exact fun h => absurd rfl h
theorem es_add {M : mSt} {x kd v : Int32} : (oAdd M x kd v).1 ≠ 0 → (oAdd M x kd v).2.2 = M := by
  unfold oAdd
  (repeat' split) <;> first | exact fun _ => rfl | exact fun h => absurd rfl h
theorem es_take {M : mSt} {x kd : Int32} : (oTake M x kd).1 ≠ 0 → (oTake M x kd).2.2 = M := by
  unfold oTake
  (repeat' split) <;> first | exact fun _ => rfl | exact fun h => absurd rfl h
theorem es_children {M : mSt} {x : Int32} : (oChildren M x).1 ≠ 0 → (oChildren M x).2.2 = M := by
  unfold oChildren
  (repeat' split) <;> first | exact fun _ => rfl | exact fun h => absurd rfl h
theorem es_kinds {M : mSt} {x : Int32} : (oKinds M x).1 ≠ 0 → (oKinds M x).2.2 = M := by
  unfold oKinds
  (repeat' split) <;> first | exact fun _ => rfl | exact fun h => absurd rfl h
theorem es_value {M : mSt} {x kd : Int32} : (oValue M x kd).1 ≠ 0 → (oValue M x kd).2.2 = M := by
  unfold oValue
  (repeat' split) <;> first | exact fun _ => rfl | exact fun h => absurd rfl h
theorem es_mark {M : mSt} {x kd : Int32} : (oMark M x kd).1 ≠ 0 → (oMark M x kd).2.2 = M := by
  unfold oMark
  (repeat' split) <;> first | exact fun _ => rfl | exact fun h => absurd rfl h
theorem es_set {M : mSt} {x kd v : Int32} : (oSet M x kd v).1 ≠ 0 → (oSet M x kd v).2.2 = M := by
  unfold oSet
  (repeat' split) <;> first | exact fun _ => rfl | exact fun h => absurd rfl h
theorem es_setOf {M : mSt} {x : Int32} : (oSetOf M x).1 ≠ 0 → (oSetOf M x).2.2 = M := by
  unfold oSetOf
  (repeat' split) <;> first | exact fun _ => rfl | exact fun h => absurd rfl h
theorem es_size {M : mSt} {x : Int32} : (oSize M x).1 ≠ 0 → (oSize M x).2.2 = M := by
  unfold oSize
  (repeat' split) <;> first | exact fun _ => rfl | exact fun h => absurd rfl h
theorem es_entityAt {M : mSt} {x x2 : Int32} : (oEntityAt M x x2).1 ≠ 0 → (oEntityAt M x x2).2.2 = M := by
  unfold oEntityAt
  (repeat' split) <;> first | exact fun _ => rfl | exact fun h => absurd rfl h
theorem es_question {M : mSt} {x1 x2 x3 : Int32} : (oQuestion M x1 x2 x3).1 ≠ 0 → (oQuestion M x1 x2 x3).2.2 = M := by
  unfold oQuestion
  (repeat' split) <;> first | exact fun _ => rfl | exact fun h => absurd rfl h
theorem es_system {M : mSt} {x1 x2 : Int32} : (oSystem M x1 x2).1 ≠ 0 → (oSystem M x1 x2).2.2 = M := by
  unfold oSystem
  (repeat' split) <;> first | exact fun _ => rfl | exact fun h => absurd rfl h
theorem es_answers {M : mSt} {x : Int32} : (oAnswers M x).1 ≠ 0 → (oAnswers M x).2.2 = M := by
  unfold oAnswers
  (repeat' split) <;> first | exact fun _ => rfl | exact fun h => absurd rfl h
theorem es_answersOneByOne {M : mSt} {x : Int32} : (oOneByOne M x).1 ≠ 0 → (oOneByOne M x).2.2 = M := by
  unfold oOneByOne
  (repeat' split) <;> first | exact fun _ => rfl | exact fun h => absurd rfl h
theorem es_answeringRows {M : mSt} {x : Int32} : (oAnsRows M x).1 ≠ 0 → (oAnsRows M x).2.2 = M := by
  unfold oAnsRows
  (repeat' split) <;> first | exact fun _ => rfl | exact fun h => absurd rfl h
theorem es_changed {M : mSt} {x x2 : Int32} : (oChanged M x x2).1 ≠ 0 → (oChanged M x x2).2.2 = M := by
  unfold oChanged
  (repeat' split) <;> first | exact fun _ => rfl | exact fun h => absurd rfl h
theorem es_answer {M : mSt} {x x2 : Int32} : (oAnswer M x x2).1 ≠ 0 → (oAnswer M x x2).2.2 = M := by
  unfold oAnswer
  (repeat' split) <;> first | exact fun _ => rfl | exact fun h => absurd rfl h
theorem es_stage {M : mSt} {x : Int32} : (oStage M x).1 ≠ 0 → (oStage M x).2.2 = M := by
  unfold oStage
  (repeat' split) <;> first | exact fun _ => rfl | exact fun h => absurd rfl h
theorem es_walk {M : mSt} {x : Int32} : (oWalk M x).1 ≠ 0 → (oWalk M x).2.2 = M := by
  unfold oWalk
  (repeat' split) <;> first | exact fun _ => rfl | exact fun h => absurd rfl h
theorem es_next {M : mSt} : (oNext M).1 ≠ 0 → (oNext M).2.2 = M := by
  unfold oNext
  (repeat' split) <;> first | exact fun _ => rfl | exact fun h => absurd rfl h
theorem es_defer {M : mSt} {x1 x2 x3 x4 : Int32} : (oDefer M x1 x2 x3 x4).1 ≠ 0 → (oDefer M x1 x2 x3 x4).2.2 = M := by
  unfold oDefer
  (repeat' split) <;> first | exact fun _ => rfl | exact fun h => absurd rfl h
theorem es_finish {M : mSt} : (oFinish M).1 ≠ 0 → (oFinish M).2.2 = M := by
  unfold oFinish
  (repeat' split) <;> first | exact fun _ => rfl | exact fun h => absurd rfl h
theorem es_run {M : mSt} : (oRun M).1 ≠ 0 → (oRun M).2.2 = M := by
  unfold oRun
  (repeat' split) <;> first | exact fun _ => rfl | exact fun h => absurd rfl h
set_option maxHeartbeats 4000000 in
set_option maxRecDepth 100000 in
theorem c_L_make (l : Launch) {D : va_G} {T : Nat → ClassId} {dE mi : Nat} (hst : l.stackTraces = false) {A : Nat → Prop} {H : Heap} {b0 bd : Nat} {tg : Nat → Nat} {M : mSt} (hR : RepT D T dE b0 A tg H M) (hI : Inv bd M) {ob : Nat} {f0 : Nat → Int64} (hob : jc (T 4) H ob 1 f0) (hot : tg ob = 7) (hAo : A ob) : vx_Met l yL_make wsL_make (rmL 10 6 123) (PcE D T dE mi A H [.ref b0, .ref ob]) (QI A (PW D T dE b0 A tg H ob (oMake M))) (XX A (XN)) 6 123 A := by
  refine entryH (hh := [(0, 8, 11, 13)]) (cc := cL_make) (maxL := 3) (ret := (some .int)) (by decide) rfl (Nat.le_of_ble_eq_true rfl) ?_
  intro p e s m args below meth c hx hb hrt9 hml hown hts hlk htb hnm hev hS ls hl
  have hown : s.vm.findClass RL = some m.cls := hown
  have hK := hev.1
  have hl : lv_has ls 3 [(0, .ref b0), (1, .ref ob)] := hl
  obtain ⟨y, zq, zy, wo, hC, hQ, hY, hW, hwo⟩ := id hR
  have hX := hC.2.1
  have hrv : ∃ cell : Cell, H[b0]? = some cell ∧ cell.vm.isStatics = false ∧ s.vm.findClass "Archeloft" = some cell.cls := x_recv hK hX.1 rfl
  refine lv_aload_n hx hb dL_make_0 rfl (lv_at hl 1 rfl) ?_
  refine lv_iconst (v := nI 0) hx hb dL_make_1 (by decide) ?_
  refine lv_aload_n hx hb dL_make_2 rfl (lv_at hl 0 rfl) ?_
  refine k_i (k_V (As := []) (rest := [.int (nI 0), .ref ob]) ⟨hx, hb, hml, hown, hts⟩ hev hS (u_make l hst hR hI) (cwV 0 hts gL_make_X6_make rfl rfl rfl (by decide +kernel) ⟨Nat.le_of_ble_eq_true rfl, Nat.le_of_ble_eq_true rfl⟩) (x_recv hK hX.1 rfl) rfl hl.1 (Nat.le_of_ble_eq_true rfl) dL_make_3 (Nat.le_of_ble_eq_true rfl) (Nat.le_of_ble_eq_true rfl)) hS (fun E9 ce9 qx Hx locsx hx9 hzx hS h7 h8 h9 => ?_) (fun rq1_ H1 locs1 hP hz1 hS => ?_)
  · obtain ⟨hm9, hk9⟩ := hx9
    obtain ⟨hE, hc9⟩ := mem1 hm9
    · subst hE
      have hs9 : (oMake M).2.2 = M := es_make (by rw [hc9]; decide)
      have f7 : FR tg (fun t => t ≠ 0 ∧ t ≠ 8) H Hx := FR.kp hk9
      refine vx_catch (own := RL) (name := "java/lang/IllegalStateException") (E := "java/lang/IllegalStateException") hown (tableOf []) ⟨0, 8, 11, 13⟩ (tableOf []) (htb.trans rfl) PsR.nl (by decide) (by decide) (hts (.classLink RL 13 "java/lang/IllegalStateException") (by decide +kernel)) (va_Nw.use rfl (hev.2.2.2.1 ("java/lang/IllegalStateException", "java/lang/IllegalStateException") (by decide +kernel))) h7 h8 h9 ?_
      refine lv_astore_n (lv' := [(2, .ref qx), (0, .ref b0), (1, .ref ob)]) hx hb dL_make_11 rfl hl (by decide) rfl (fun ls hl => ?_)
      refine lv_iconst (v := nI 1) hx hb dL_make_12 (by decide) ?_
      exact r_i hx hb hrt9 hlk hS (Nat.le_of_ble_eq_true rfl) (Nat.le_of_ble_eq_true rfl) dL_make_13 (⟨⟨by rw [hc9], by rw [hc9]; decide⟩, ⟨_, hob.kept (hk9.2 _ hob.lt), fun z => by rw [hc9] at z; cases z⟩, tg, by rw [hs9]; exact hR.kp hk9, TX.rf, f7⟩)
  -- on
  obtain ⟨h1, h2, tg1, hR1, tx, f1⟩ := hP
  refine x_top (y := (((oMake M).2.1))) (h2) ?_
  have hob1 := hob.kept (f1.2 _ hob.lt (by rw [hot]; decide))
  have hot1 := (tx _ hob.lt).trans hot
  refine lv_i2l (v := (((oMake M).2.1)).toInt64) hx hb dL_make_6 rfl ?_
  refine x_last (i := 0) (x := (((oMake M).2.1)).toInt64) hx hb hK hS hob1 hAo (by omega) (by decide) dL_make_7 (fun H2 locs2 hob2 hz2 hq2 hS => ?_)
  have f2 : FR tg1 (fun t => t = 7) H1 H2 := ⟨by omega, fun q9 _ h8 => hq2 q9 (fun z => h8 (by rw [z]; exact hot1))⟩
  have hR2 := hR1.out f2 (Or.inl rfl)
  have f3 : FR tg (fun t => t ≠ 0 ∧ t ≠ 8) H H2 := (f1.wk (fun t z => ⟨z.1, z.2.2⟩)).tr tx (f2.wk (fun t z => by omega))
  refine lv_goto (tgt := 14) hx hb dL_make_8 (by decide) ?_
  refine lv_iconst (v := nI 0) hx hb dL_make_14 (by decide) ?_
  exact r_i hx hb hrt9 hlk hS (Nat.le_of_ble_eq_true rfl) (Nat.le_of_ble_eq_true rfl) dL_make_15 (⟨⟨by rw [h1], by rw [h1]; decide⟩, ⟨_, hob2, fun _ => if_pos rfl⟩, tg1, hR2, tx, f3⟩)
set_option maxHeartbeats 4000000 in
set_option maxRecDepth 100000 in
theorem c_L_end (l : Launch) {D : va_G} {T : Nat → ClassId} {dE mi : Nat} (hst : l.stackTraces = false) {A : Nat → Prop} {H : Heap} {b0 bd : Nat} {tg : Nat → Nat} {M : mSt} (hR : RepT D T dE b0 A tg H M) (hI : Inv bd M) (x : Int32) {ob : Nat} {f0 : Nat → Int64} (hob : jc (T 4) H ob 1 f0) (hot : tg ob = 7) (hAo : A ob) : vx_Met l yL_end wsL_end (rmL 10 7 95) (PcE D T dE mi A H [.ref b0, .int x, .ref ob]) (QI A (PW D T dE b0 A tg H ob (oEnd M x))) (XX A (XN)) 7 95 A := by
  refine entryH (hh := [(0, 9, 12, 19), (0, 9, 15, 13)]) (cc := cL_end) (maxL := 4) (ret := (some .int)) (by decide) rfl (Nat.le_of_ble_eq_true rfl) ?_
  intro p e s m args below meth c hx hb hrt9 hml hown hts hlk htb hnm hev hS ls hl
  have hown : s.vm.findClass RL = some m.cls := hown
  have hK := hev.1
  have hl : lv_has ls 4 [(0, .ref b0), (1, .int x), (2, .ref ob)] := hl
  obtain ⟨y, zq, zy, wo, hC, hQ, hY, hW, hwo⟩ := id hR
  have hX := hC.2.1
  have hrv : ∃ cell : Cell, H[b0]? = some cell ∧ cell.vm.isStatics = false ∧ s.vm.findClass "Archeloft" = some cell.cls := x_recv hK hX.1 rfl
  refine lv_aload_n hx hb dL_end_0 rfl (lv_at hl 2 rfl) ?_
  refine lv_iconst (v := nI 0) hx hb dL_end_1 (by decide) ?_
  refine lv_aload_n hx hb dL_end_2 rfl (lv_at hl 0 rfl) ?_
  refine lv_iload_n hx hb dL_end_3 rfl (lv_at hl 1 rfl) ?_
  refine k_i (k_V (As := [.int x]) (rest := [.int (nI 0), .ref ob]) ⟨hx, hb, hml, hown, hts⟩ hev hS (u_end l hst hR hI x) (cwV 1 hts gL_end_X6_end rfl rfl rfl (by decide +kernel) ⟨Nat.le_of_ble_eq_true rfl, Nat.le_of_ble_eq_true rfl⟩) (x_recv hK hX.1 rfl) rfl hl.1 (Nat.le_of_ble_eq_true rfl) dL_end_4 (Nat.le_of_ble_eq_true rfl) (Nat.le_of_ble_eq_true rfl)) hS (fun E9 ce9 qx Hx locsx hx9 hzx hS h7 h8 h9 => ?_) (fun rq1_ H1 locs1 hP hz1 hS => ?_)
  · obtain ⟨hm9, hk9⟩ := hx9
    rcases mem2 hm9 with ⟨hE, hc9⟩ | ⟨hE, hc9⟩
    · subst hE
      have hs9 : (oEnd M x).2.2 = M := es_end (by rw [hc9]; decide)
      have f7 : FR tg (fun t => t ≠ 0 ∧ t ≠ 8) H Hx := FR.kp hk9
      refine vx_catch (own := RL) (name := "java/util/NoSuchElementException") (E := "java/util/NoSuchElementException") hown (tableOf []) ⟨0, 9, 12, 19⟩ (tableOf [(0, 9, 15, 13)]) (htb.trans rfl) PsR.nl (by decide) (by decide) (hts (.classLink RL 19 "java/util/NoSuchElementException") (by decide +kernel)) (va_Nw.use rfl (hev.2.2.2.1 ("java/util/NoSuchElementException", "java/util/NoSuchElementException") (by decide +kernel))) h7 h8 h9 ?_
      refine lv_astore_n (lv' := [(3, .ref qx), (0, .ref b0), (1, .int x), (2, .ref ob)]) hx hb dL_end_12 rfl hl (by decide) rfl (fun ls hl => ?_)
      refine lv_iconst (v := nI 1) hx hb dL_end_13 (by decide) ?_
      exact r_i hx hb hrt9 hlk hS (Nat.le_of_ble_eq_true rfl) (Nat.le_of_ble_eq_true rfl) dL_end_14 (⟨⟨by rw [hc9], by rw [hc9]; decide⟩, ⟨_, hob.kept (hk9.2 _ hob.lt), fun z => by rw [hc9] at z; cases z⟩, tg, by rw [hs9]; exact hR.kp hk9, TX.rf, f7⟩)
    · subst hE
      have hs9 : (oEnd M x).2.2 = M := es_end (by rw [hc9]; decide)
      have f7 : FR tg (fun t => t ≠ 0 ∧ t ≠ 8) H Hx := FR.kp hk9
      refine vx_catch (own := RL) (name := "java/lang/IllegalStateException") (E := "java/lang/IllegalStateException") hown (tableOf [(0, 9, 12, 19)]) ⟨0, 9, 15, 13⟩ (tableOf []) (htb.trans rfl) (PsR.cs (PsR.on (nm := "java/util/NoSuchElementException") (by decide) (hts (.classLink RL 19 "java/util/NoSuchElementException") (by decide +kernel)) (hev.2.2.2.2.1.1.1 ("java/lang/IllegalStateException", "java/util/NoSuchElementException") (by decide +kernel))) PsR.nl) (by decide) (by decide) (hts (.classLink RL 13 "java/lang/IllegalStateException") (by decide +kernel)) (va_Nw.use rfl (hev.2.2.2.1 ("java/lang/IllegalStateException", "java/lang/IllegalStateException") (by decide +kernel))) h7 h8 h9 ?_
      refine lv_astore_n (lv' := [(3, .ref qx), (0, .ref b0), (1, .int x), (2, .ref ob)]) hx hb dL_end_15 rfl hl (by decide) rfl (fun ls hl => ?_)
      refine lv_iconst (v := nI 2) hx hb dL_end_16 (by decide) ?_
      exact r_i hx hb hrt9 hlk hS (Nat.le_of_ble_eq_true rfl) (Nat.le_of_ble_eq_true rfl) dL_end_17 (⟨⟨by rw [hc9], by rw [hc9]; decide⟩, ⟨_, hob.kept (hk9.2 _ hob.lt), fun z => by rw [hc9] at z; cases z⟩, tg, by rw [hs9]; exact hR.kp hk9, TX.rf, f7⟩)
  -- on
  obtain ⟨h1, h2, tg1, hR1, tx, f1⟩ := hP
  refine x_top (y := (((oEnd M x).2.1))) (h2) ?_
  have hob1 := hob.kept (f1.2 _ hob.lt (by rw [hot]; decide))
  have hot1 := (tx _ hob.lt).trans hot
  refine lv_i2l (v := (((oEnd M x).2.1)).toInt64) hx hb dL_end_7 rfl ?_
  refine x_last (i := 0) (x := (((oEnd M x).2.1)).toInt64) hx hb hK hS hob1 hAo (by omega) (by decide) dL_end_8 (fun H2 locs2 hob2 hz2 hq2 hS => ?_)
  have f2 : FR tg1 (fun t => t = 7) H1 H2 := ⟨by omega, fun q9 _ h8 => hq2 q9 (fun z => h8 (by rw [z]; exact hot1))⟩
  have hR2 := hR1.out f2 (Or.inl rfl)
  have f3 : FR tg (fun t => t ≠ 0 ∧ t ≠ 8) H H2 := (f1.wk (fun t z => ⟨z.1, z.2.2⟩)).tr tx (f2.wk (fun t z => by omega))
  refine lv_goto (tgt := 18) hx hb dL_end_9 (by decide) ?_
  refine lv_iconst (v := nI 0) hx hb dL_end_18 (by decide) ?_
  exact r_i hx hb hrt9 hlk hS (Nat.le_of_ble_eq_true rfl) (Nat.le_of_ble_eq_true rfl) dL_end_19 (⟨⟨by rw [h1], by rw [h1]; decide⟩, ⟨_, hob2, fun _ => if_pos rfl⟩, tg1, hR2, tx, f3⟩)
set_option maxHeartbeats 4000000 in
set_option maxRecDepth 100000 in
theorem c_L_adopt (l : Launch) {D : va_G} {T : Nat → ClassId} {dE mi : Nat} (hst : l.stackTraces = false) {A : Nat → Prop} {H : Heap} {b0 bd : Nat} {tg : Nat → Nat} {M : mSt} (hR : RepT D T dE b0 A tg H M) (hI : Inv bd M) (x x2 : Int32) {ob : Nat} {f0 : Nat → Int64} (hob : jc (T 4) H ob 1 f0) (hot : tg ob = 7) (hAo : A ob) : vx_Met l yL_adopt wsL_adopt (rmL 8 4 24) (PcE D T dE mi A H [.ref b0, .int x, .int x2, .ref ob]) (QI A (PW D T dE b0 A tg H ob (oAdopt M x x2))) (XX A (XN)) 4 24 A := by
  refine entryH (hh := [(0, 10, 13, 19), (0, 10, 17, 25), (0, 10, 21, 13)]) (cc := cL_adopt) (maxL := 5) (ret := (some .int)) (by decide) rfl (Nat.le_of_ble_eq_true rfl) ?_
  intro p e s m args below meth c hx hb hrt9 hml hown hts hlk htb hnm hev hS ls hl
  have hown : s.vm.findClass RL = some m.cls := hown
  have hK := hev.1
  have hl : lv_has ls 5 [(0, .ref b0), (1, .int x), (2, .int x2), (3, .ref ob)] := hl
  obtain ⟨y, zq, zy, wo, hC, hQ, hY, hW, hwo⟩ := id hR
  have hX := hC.2.1
  have hrv : ∃ cell : Cell, H[b0]? = some cell ∧ cell.vm.isStatics = false ∧ s.vm.findClass "Archeloft" = some cell.cls := x_recv hK hX.1 rfl
  refine lv_aload_n hx hb dL_adopt_0 rfl (lv_at hl 3 rfl) ?_
  refine lv_iconst (v := nI 0) hx hb dL_adopt_1 (by decide) ?_
  refine lv_aload_n hx hb dL_adopt_2 rfl (lv_at hl 0 rfl) ?_
  refine lv_iload_n hx hb dL_adopt_3 rfl (lv_at hl 1 rfl) ?_
  refine lv_iload_n hx hb dL_adopt_4 rfl (lv_at hl 2 rfl) ?_
  refine k_i (k_V (As := [.int x, .int x2]) (rest := [.int (nI 0), .ref ob]) ⟨hx, hb, hml, hown, hts⟩ hev hS (u_adopt l hst hR hI x x2) (cwV 2 hts gL_adopt_X6_adopt rfl rfl rfl (by decide +kernel) ⟨Nat.le_of_ble_eq_true rfl, Nat.le_of_ble_eq_true rfl⟩) (x_recv hK hX.1 rfl) rfl hl.1 (Nat.le_of_ble_eq_true rfl) dL_adopt_5 (Nat.le_of_ble_eq_true rfl) (Nat.le_of_ble_eq_true rfl)) hS (fun E9 ce9 qx Hx locsx hx9 hzx hS h7 h8 h9 => ?_) (fun rq1_ H1 locs1 hP hz1 hS => ?_)
  · obtain ⟨hm9, hk9⟩ := hx9
    rcases mem3 hm9 with ⟨hE, hc9⟩ | ⟨hE, hc9⟩ | ⟨hE, hc9⟩
    · subst hE
      have hs9 : (oAdopt M x x2).2.2 = M := es_adopt (by rw [hc9]; decide)
      have f7 : FR tg (fun t => t ≠ 0 ∧ t ≠ 8) H Hx := FR.kp hk9
      refine vx_catch (own := RL) (name := "java/util/NoSuchElementException") (E := "java/util/NoSuchElementException") hown (tableOf []) ⟨0, 10, 13, 19⟩ (tableOf [(0, 10, 17, 25), (0, 10, 21, 13)]) (htb.trans rfl) PsR.nl (by decide) (by decide) (hts (.classLink RL 19 "java/util/NoSuchElementException") (by decide +kernel)) (va_Nw.use rfl (hev.2.2.2.1 ("java/util/NoSuchElementException", "java/util/NoSuchElementException") (by decide +kernel))) h7 h8 h9 ?_
      refine lv_astore (lv' := [(4, .ref qx), (0, .ref b0), (1, .int x), (2, .int x2), (3, .ref ob)]) hx hb dL_adopt_13 hl (by decide) rfl (fun ls hl => ?_)
      refine lv_iconst (v := nI 1) hx hb dL_adopt_15 (by decide) ?_
      exact r_i hx hb hrt9 hlk hS (Nat.le_of_ble_eq_true rfl) (Nat.le_of_ble_eq_true rfl) dL_adopt_16 (⟨⟨by rw [hc9], by rw [hc9]; decide⟩, ⟨_, hob.kept (hk9.2 _ hob.lt), fun z => by rw [hc9] at z; cases z⟩, tg, by rw [hs9]; exact hR.kp hk9, TX.rf, f7⟩)
    · subst hE
      have hs9 : (oAdopt M x x2).2.2 = M := es_adopt (by rw [hc9]; decide)
      have f7 : FR tg (fun t => t ≠ 0 ∧ t ≠ 8) H Hx := FR.kp hk9
      refine vx_catch (own := RL) (name := "java/lang/IllegalArgumentException") (E := "java/lang/IllegalArgumentException") hown (tableOf [(0, 10, 13, 19)]) ⟨0, 10, 17, 25⟩ (tableOf [(0, 10, 21, 13)]) (htb.trans rfl) (PsR.cs (PsR.on (nm := "java/util/NoSuchElementException") (by decide) (hts (.classLink RL 19 "java/util/NoSuchElementException") (by decide +kernel)) (hev.2.2.2.2.1.1.1 ("java/lang/IllegalArgumentException", "java/util/NoSuchElementException") (by decide +kernel))) PsR.nl) (by decide) (by decide) (hts (.classLink RL 25 "java/lang/IllegalArgumentException") (by decide +kernel)) (va_Nw.use rfl (hev.2.2.2.1 ("java/lang/IllegalArgumentException", "java/lang/IllegalArgumentException") (by decide +kernel))) h7 h8 h9 ?_
      refine lv_astore (lv' := [(4, .ref qx), (0, .ref b0), (1, .int x), (2, .int x2), (3, .ref ob)]) hx hb dL_adopt_17 hl (by decide) rfl (fun ls hl => ?_)
      refine lv_iconst (v := nI 2) hx hb dL_adopt_19 (by decide) ?_
      exact r_i hx hb hrt9 hlk hS (Nat.le_of_ble_eq_true rfl) (Nat.le_of_ble_eq_true rfl) dL_adopt_20 (⟨⟨by rw [hc9], by rw [hc9]; decide⟩, ⟨_, hob.kept (hk9.2 _ hob.lt), fun z => by rw [hc9] at z; cases z⟩, tg, by rw [hs9]; exact hR.kp hk9, TX.rf, f7⟩)
    · subst hE
      have hs9 : (oAdopt M x x2).2.2 = M := es_adopt (by rw [hc9]; decide)
      have f7 : FR tg (fun t => t ≠ 0 ∧ t ≠ 8) H Hx := FR.kp hk9
      refine vx_catch (own := RL) (name := "java/lang/IllegalStateException") (E := "java/lang/IllegalStateException") hown (tableOf [(0, 10, 13, 19), (0, 10, 17, 25)]) ⟨0, 10, 21, 13⟩ (tableOf []) (htb.trans rfl) (PsR.cs (PsR.on (nm := "java/util/NoSuchElementException") (by decide) (hts (.classLink RL 19 "java/util/NoSuchElementException") (by decide +kernel)) (hev.2.2.2.2.1.1.1 ("java/lang/IllegalStateException", "java/util/NoSuchElementException") (by decide +kernel))) (PsR.cs (PsR.on (nm := "java/lang/IllegalArgumentException") (by decide) (hts (.classLink RL 25 "java/lang/IllegalArgumentException") (by decide +kernel)) (hev.2.2.2.2.1.1.1 ("java/lang/IllegalStateException", "java/lang/IllegalArgumentException") (by decide +kernel))) PsR.nl)) (by decide) (by decide) (hts (.classLink RL 13 "java/lang/IllegalStateException") (by decide +kernel)) (va_Nw.use rfl (hev.2.2.2.1 ("java/lang/IllegalStateException", "java/lang/IllegalStateException") (by decide +kernel))) h7 h8 h9 ?_
      refine lv_astore (lv' := [(4, .ref qx), (0, .ref b0), (1, .int x), (2, .int x2), (3, .ref ob)]) hx hb dL_adopt_21 hl (by decide) rfl (fun ls hl => ?_)
      refine lv_iconst (v := nI 3) hx hb dL_adopt_23 (by decide) ?_
      exact r_i hx hb hrt9 hlk hS (Nat.le_of_ble_eq_true rfl) (Nat.le_of_ble_eq_true rfl) dL_adopt_24 (⟨⟨by rw [hc9], by rw [hc9]; decide⟩, ⟨_, hob.kept (hk9.2 _ hob.lt), fun z => by rw [hc9] at z; cases z⟩, tg, by rw [hs9]; exact hR.kp hk9, TX.rf, f7⟩)
  -- on
  obtain ⟨h1, h2, tg1, hR1, tx, f1⟩ := hP
  refine x_top (y := (((oAdopt M x x2).2.1))) (h2) ?_
  have hob1 := hob.kept (f1.2 _ hob.lt (by rw [hot]; decide))
  have hot1 := (tx _ hob.lt).trans hot
  refine lv_i2l (v := (((oAdopt M x x2).2.1)).toInt64) hx hb dL_adopt_8 rfl ?_
  refine x_last (i := 0) (x := (((oAdopt M x x2).2.1)).toInt64) hx hb hK hS hob1 hAo (by omega) (by decide) dL_adopt_9 (fun H2 locs2 hob2 hz2 hq2 hS => ?_)
  have f2 : FR tg1 (fun t => t = 7) H1 H2 := ⟨by omega, fun q9 _ h8 => hq2 q9 (fun z => h8 (by rw [z]; exact hot1))⟩
  have hR2 := hR1.out f2 (Or.inl rfl)
  have f3 : FR tg (fun t => t ≠ 0 ∧ t ≠ 8) H H2 := (f1.wk (fun t z => ⟨z.1, z.2.2⟩)).tr tx (f2.wk (fun t z => by omega))
  refine lv_goto (tgt := 25) hx hb dL_adopt_10 (by decide) ?_
  refine lv_iconst (v := nI 0) hx hb dL_adopt_25 (by decide) ?_
  exact r_i hx hb hrt9 hlk hS (Nat.le_of_ble_eq_true rfl) (Nat.le_of_ble_eq_true rfl) dL_adopt_26 (⟨⟨by rw [h1], by rw [h1]; decide⟩, ⟨_, hob2, fun _ => if_pos rfl⟩, tg1, hR2, tx, f3⟩)
set_option maxHeartbeats 4000000 in
set_option maxRecDepth 100000 in
theorem c_L_add (l : Launch) {D : va_G} {T : Nat → ClassId} {dE mi : Nat} (hst : l.stackTraces = false) {A : Nat → Prop} {H : Heap} {b0 bd : Nat} {tg : Nat → Nat} {M : mSt} (hR : RepT D T dE b0 A tg H M) (hI : Inv bd M) (x kd v : Int32) {ob : Nat} {f0 : Nat → Int64} (hob : jc (T 4) H ob 1 f0) (hot : tg ob = 7) (hAo : A ob) : vx_Met l yL_add wsL_add (rmL 11 7 129) (PcE D T dE mi A H [.ref b0, .int x, .int kd, .int v, .ref ob]) (QI A (PW D T dE b0 A tg H ob (oAdd M x kd v))) (XX A (XN)) 7 129 A := by
  refine entryH (hh := [(0, 12, 15, 19), (0, 12, 19, 25), (0, 12, 23, 13)]) (cc := cL_add) (maxL := 6) (ret := (some .int)) (by decide) rfl (Nat.le_of_ble_eq_true rfl) ?_
  intro p e s m args below meth c hx hb hrt9 hml hown hts hlk htb hnm hev hS ls hl
  have hown : s.vm.findClass RL = some m.cls := hown
  have hK := hev.1
  have hl : lv_has ls 6 [(0, .ref b0), (1, .int x), (2, .int kd), (3, .int v), (4, .ref ob)] := hl
  obtain ⟨y, zq, zy, wo, hC, hQ, hY, hW, hwo⟩ := id hR
  have hX := hC.2.1
  have hrv : ∃ cell : Cell, H[b0]? = some cell ∧ cell.vm.isStatics = false ∧ s.vm.findClass "Archeloft" = some cell.cls := x_recv hK hX.1 rfl
  refine lv_aload hx hb dL_add_0 (lv_at hl 4 rfl) ?_
  refine lv_iconst (v := nI 0) hx hb dL_add_2 (by decide) ?_
  refine lv_aload_n hx hb dL_add_3 rfl (lv_at hl 0 rfl) ?_
  refine lv_iload_n hx hb dL_add_4 rfl (lv_at hl 1 rfl) ?_
  refine lv_iload_n hx hb dL_add_5 rfl (lv_at hl 2 rfl) ?_
  refine lv_iload_n hx hb dL_add_6 rfl (lv_at hl 3 rfl) ?_
  refine k_i (k_V (As := [.int x, .int kd, .int v]) (rest := [.int (nI 0), .ref ob]) ⟨hx, hb, hml, hown, hts⟩ hev hS (u_add l hst hR hI x kd v) (cwV 3 hts gL_add_X6_add rfl rfl rfl (by decide +kernel) ⟨Nat.le_of_ble_eq_true rfl, Nat.le_of_ble_eq_true rfl⟩) (x_recv hK hX.1 rfl) rfl hl.1 (Nat.le_of_ble_eq_true rfl) dL_add_7 (Nat.le_of_ble_eq_true rfl) (Nat.le_of_ble_eq_true rfl)) hS (fun E9 ce9 qx Hx locsx hx9 hzx hS h7 h8 h9 => ?_) (fun rq1_ H1 locs1 hP hz1 hS => ?_)
  · obtain ⟨hm9, hk9⟩ := hx9
    rcases mem3 hm9 with ⟨hE, hc9⟩ | ⟨hE, hc9⟩ | ⟨hE, hc9⟩
    · subst hE
      have hs9 : (oAdd M x kd v).2.2 = M := es_add (by rw [hc9]; decide)
      have f7 : FR tg (fun t => t ≠ 0 ∧ t ≠ 8) H Hx := FR.kp hk9
      refine vx_catch (own := RL) (name := "java/util/NoSuchElementException") (E := "java/util/NoSuchElementException") hown (tableOf []) ⟨0, 12, 15, 19⟩ (tableOf [(0, 12, 19, 25), (0, 12, 23, 13)]) (htb.trans rfl) PsR.nl (by decide) (by decide) (hts (.classLink RL 19 "java/util/NoSuchElementException") (by decide +kernel)) (va_Nw.use rfl (hev.2.2.2.1 ("java/util/NoSuchElementException", "java/util/NoSuchElementException") (by decide +kernel))) h7 h8 h9 ?_
      refine lv_astore (lv' := [(5, .ref qx), (0, .ref b0), (1, .int x), (2, .int kd), (3, .int v), (4, .ref ob)]) hx hb dL_add_15 hl (by decide) rfl (fun ls hl => ?_)
      refine lv_iconst (v := nI 1) hx hb dL_add_17 (by decide) ?_
      exact r_i hx hb hrt9 hlk hS (Nat.le_of_ble_eq_true rfl) (Nat.le_of_ble_eq_true rfl) dL_add_18 (⟨⟨by rw [hc9], by rw [hc9]; decide⟩, ⟨_, hob.kept (hk9.2 _ hob.lt), fun z => by rw [hc9] at z; cases z⟩, tg, by rw [hs9]; exact hR.kp hk9, TX.rf, f7⟩)
    · subst hE
      have hs9 : (oAdd M x kd v).2.2 = M := es_add (by rw [hc9]; decide)
      have f7 : FR tg (fun t => t ≠ 0 ∧ t ≠ 8) H Hx := FR.kp hk9
      refine vx_catch (own := RL) (name := "java/lang/IllegalArgumentException") (E := "java/lang/IllegalArgumentException") hown (tableOf [(0, 12, 15, 19)]) ⟨0, 12, 19, 25⟩ (tableOf [(0, 12, 23, 13)]) (htb.trans rfl) (PsR.cs (PsR.on (nm := "java/util/NoSuchElementException") (by decide) (hts (.classLink RL 19 "java/util/NoSuchElementException") (by decide +kernel)) (hev.2.2.2.2.1.1.1 ("java/lang/IllegalArgumentException", "java/util/NoSuchElementException") (by decide +kernel))) PsR.nl) (by decide) (by decide) (hts (.classLink RL 25 "java/lang/IllegalArgumentException") (by decide +kernel)) (va_Nw.use rfl (hev.2.2.2.1 ("java/lang/IllegalArgumentException", "java/lang/IllegalArgumentException") (by decide +kernel))) h7 h8 h9 ?_
      refine lv_astore (lv' := [(5, .ref qx), (0, .ref b0), (1, .int x), (2, .int kd), (3, .int v), (4, .ref ob)]) hx hb dL_add_19 hl (by decide) rfl (fun ls hl => ?_)
      refine lv_iconst (v := nI 2) hx hb dL_add_21 (by decide) ?_
      exact r_i hx hb hrt9 hlk hS (Nat.le_of_ble_eq_true rfl) (Nat.le_of_ble_eq_true rfl) dL_add_22 (⟨⟨by rw [hc9], by rw [hc9]; decide⟩, ⟨_, hob.kept (hk9.2 _ hob.lt), fun z => by rw [hc9] at z; cases z⟩, tg, by rw [hs9]; exact hR.kp hk9, TX.rf, f7⟩)
    · subst hE
      have hs9 : (oAdd M x kd v).2.2 = M := es_add (by rw [hc9]; decide)
      have f7 : FR tg (fun t => t ≠ 0 ∧ t ≠ 8) H Hx := FR.kp hk9
      refine vx_catch (own := RL) (name := "java/lang/IllegalStateException") (E := "java/lang/IllegalStateException") hown (tableOf [(0, 12, 15, 19), (0, 12, 19, 25)]) ⟨0, 12, 23, 13⟩ (tableOf []) (htb.trans rfl) (PsR.cs (PsR.on (nm := "java/util/NoSuchElementException") (by decide) (hts (.classLink RL 19 "java/util/NoSuchElementException") (by decide +kernel)) (hev.2.2.2.2.1.1.1 ("java/lang/IllegalStateException", "java/util/NoSuchElementException") (by decide +kernel))) (PsR.cs (PsR.on (nm := "java/lang/IllegalArgumentException") (by decide) (hts (.classLink RL 25 "java/lang/IllegalArgumentException") (by decide +kernel)) (hev.2.2.2.2.1.1.1 ("java/lang/IllegalStateException", "java/lang/IllegalArgumentException") (by decide +kernel))) PsR.nl)) (by decide) (by decide) (hts (.classLink RL 13 "java/lang/IllegalStateException") (by decide +kernel)) (va_Nw.use rfl (hev.2.2.2.1 ("java/lang/IllegalStateException", "java/lang/IllegalStateException") (by decide +kernel))) h7 h8 h9 ?_
      refine lv_astore (lv' := [(5, .ref qx), (0, .ref b0), (1, .int x), (2, .int kd), (3, .int v), (4, .ref ob)]) hx hb dL_add_23 hl (by decide) rfl (fun ls hl => ?_)
      refine lv_iconst (v := nI 3) hx hb dL_add_25 (by decide) ?_
      exact r_i hx hb hrt9 hlk hS (Nat.le_of_ble_eq_true rfl) (Nat.le_of_ble_eq_true rfl) dL_add_26 (⟨⟨by rw [hc9], by rw [hc9]; decide⟩, ⟨_, hob.kept (hk9.2 _ hob.lt), fun z => by rw [hc9] at z; cases z⟩, tg, by rw [hs9]; exact hR.kp hk9, TX.rf, f7⟩)
  -- on
  obtain ⟨h1, h2, tg1, hR1, tx, f1⟩ := hP
  refine x_top (y := (((oAdd M x kd v).2.1))) (h2) ?_
  have hob1 := hob.kept (f1.2 _ hob.lt (by rw [hot]; decide))
  have hot1 := (tx _ hob.lt).trans hot
  refine lv_i2l (v := (((oAdd M x kd v).2.1)).toInt64) hx hb dL_add_10 rfl ?_
  refine x_last (i := 0) (x := (((oAdd M x kd v).2.1)).toInt64) hx hb hK hS hob1 hAo (by omega) (by decide) dL_add_11 (fun H2 locs2 hob2 hz2 hq2 hS => ?_)
  have f2 : FR tg1 (fun t => t = 7) H1 H2 := ⟨by omega, fun q9 _ h8 => hq2 q9 (fun z => h8 (by rw [z]; exact hot1))⟩
  have hR2 := hR1.out f2 (Or.inl rfl)
  have f3 : FR tg (fun t => t ≠ 0 ∧ t ≠ 8) H H2 := (f1.wk (fun t z => ⟨z.1, z.2.2⟩)).tr tx (f2.wk (fun t z => by omega))
  refine lv_goto (tgt := 27) hx hb dL_add_12 (by decide) ?_
  refine lv_iconst (v := nI 0) hx hb dL_add_27 (by decide) ?_
  exact r_i hx hb hrt9 hlk hS (Nat.le_of_ble_eq_true rfl) (Nat.le_of_ble_eq_true rfl) dL_add_28 (⟨⟨by rw [h1], by rw [h1]; decide⟩, ⟨_, hob2, fun _ => if_pos rfl⟩, tg1, hR2, tx, f3⟩)
set_option maxHeartbeats 4000000 in
set_option maxRecDepth 100000 in
theorem c_L_take (l : Launch) {D : va_G} {T : Nat → ClassId} {dE mi : Nat} (hst : l.stackTraces = false) {A : Nat → Prop} {H : Heap} {b0 bd : Nat} {tg : Nat → Nat} {M : mSt} (hR : RepT D T dE b0 A tg H M) (hI : Inv bd M) (x kd : Int32) {ob : Nat} {f0 : Nat → Int64} (hob : jc (T 4) H ob 1 f0) (hot : tg ob = 7) (hAo : A ob) : vx_Met l yL_take wsL_take (rmL 11 8 135) (PcE D T dE mi A H [.ref b0, .int x, .int kd, .ref ob]) (QI A (PW D T dE b0 A tg H ob (oTake M x kd))) (XX A (XN)) 8 135 A := by
  refine entryH (hh := [(0, 10, 13, 19), (0, 10, 17, 25), (0, 10, 21, 13)]) (cc := cL_take) (maxL := 5) (ret := (some .int)) (by decide) rfl (Nat.le_of_ble_eq_true rfl) ?_
  intro p e s m args below meth c hx hb hrt9 hml hown hts hlk htb hnm hev hS ls hl
  have hown : s.vm.findClass RL = some m.cls := hown
  have hK := hev.1
  have hl : lv_has ls 5 [(0, .ref b0), (1, .int x), (2, .int kd), (3, .ref ob)] := hl
  obtain ⟨y, zq, zy, wo, hC, hQ, hY, hW, hwo⟩ := id hR
  have hX := hC.2.1
  have hrv : ∃ cell : Cell, H[b0]? = some cell ∧ cell.vm.isStatics = false ∧ s.vm.findClass "Archeloft" = some cell.cls := x_recv hK hX.1 rfl
  refine lv_aload_n hx hb dL_take_0 rfl (lv_at hl 3 rfl) ?_
  refine lv_iconst (v := nI 0) hx hb dL_take_1 (by decide) ?_
  refine lv_aload_n hx hb dL_take_2 rfl (lv_at hl 0 rfl) ?_
  refine lv_iload_n hx hb dL_take_3 rfl (lv_at hl 1 rfl) ?_
  refine lv_iload_n hx hb dL_take_4 rfl (lv_at hl 2 rfl) ?_
  refine k_i (k_V (As := [.int x, .int kd]) (rest := [.int (nI 0), .ref ob]) ⟨hx, hb, hml, hown, hts⟩ hev hS (u_take l hst hR hI x kd) (cwV 2 hts gL_take_X6_take rfl rfl rfl (by decide +kernel) ⟨Nat.le_of_ble_eq_true rfl, Nat.le_of_ble_eq_true rfl⟩) (x_recv hK hX.1 rfl) rfl hl.1 (Nat.le_of_ble_eq_true rfl) dL_take_5 (Nat.le_of_ble_eq_true rfl) (Nat.le_of_ble_eq_true rfl)) hS (fun E9 ce9 qx Hx locsx hx9 hzx hS h7 h8 h9 => ?_) (fun rq1_ H1 locs1 hP hz1 hS => ?_)
  · obtain ⟨hm9, hk9⟩ := hx9
    rcases mem3 hm9 with ⟨hE, hc9⟩ | ⟨hE, hc9⟩ | ⟨hE, hc9⟩
    · subst hE
      have hs9 : (oTake M x kd).2.2 = M := es_take (by rw [hc9]; decide)
      have f7 : FR tg (fun t => t ≠ 0 ∧ t ≠ 8) H Hx := FR.kp hk9
      refine vx_catch (own := RL) (name := "java/util/NoSuchElementException") (E := "java/util/NoSuchElementException") hown (tableOf []) ⟨0, 10, 13, 19⟩ (tableOf [(0, 10, 17, 25), (0, 10, 21, 13)]) (htb.trans rfl) PsR.nl (by decide) (by decide) (hts (.classLink RL 19 "java/util/NoSuchElementException") (by decide +kernel)) (va_Nw.use rfl (hev.2.2.2.1 ("java/util/NoSuchElementException", "java/util/NoSuchElementException") (by decide +kernel))) h7 h8 h9 ?_
      refine lv_astore (lv' := [(4, .ref qx), (0, .ref b0), (1, .int x), (2, .int kd), (3, .ref ob)]) hx hb dL_take_13 hl (by decide) rfl (fun ls hl => ?_)
      refine lv_iconst (v := nI 1) hx hb dL_take_15 (by decide) ?_
      exact r_i hx hb hrt9 hlk hS (Nat.le_of_ble_eq_true rfl) (Nat.le_of_ble_eq_true rfl) dL_take_16 (⟨⟨by rw [hc9], by rw [hc9]; decide⟩, ⟨_, hob.kept (hk9.2 _ hob.lt), fun z => by rw [hc9] at z; cases z⟩, tg, by rw [hs9]; exact hR.kp hk9, TX.rf, f7⟩)
    · subst hE
      have hs9 : (oTake M x kd).2.2 = M := es_take (by rw [hc9]; decide)
      have f7 : FR tg (fun t => t ≠ 0 ∧ t ≠ 8) H Hx := FR.kp hk9
      refine vx_catch (own := RL) (name := "java/lang/IllegalArgumentException") (E := "java/lang/IllegalArgumentException") hown (tableOf [(0, 10, 13, 19)]) ⟨0, 10, 17, 25⟩ (tableOf [(0, 10, 21, 13)]) (htb.trans rfl) (PsR.cs (PsR.on (nm := "java/util/NoSuchElementException") (by decide) (hts (.classLink RL 19 "java/util/NoSuchElementException") (by decide +kernel)) (hev.2.2.2.2.1.1.1 ("java/lang/IllegalArgumentException", "java/util/NoSuchElementException") (by decide +kernel))) PsR.nl) (by decide) (by decide) (hts (.classLink RL 25 "java/lang/IllegalArgumentException") (by decide +kernel)) (va_Nw.use rfl (hev.2.2.2.1 ("java/lang/IllegalArgumentException", "java/lang/IllegalArgumentException") (by decide +kernel))) h7 h8 h9 ?_
      refine lv_astore (lv' := [(4, .ref qx), (0, .ref b0), (1, .int x), (2, .int kd), (3, .ref ob)]) hx hb dL_take_17 hl (by decide) rfl (fun ls hl => ?_)
      refine lv_iconst (v := nI 2) hx hb dL_take_19 (by decide) ?_
      exact r_i hx hb hrt9 hlk hS (Nat.le_of_ble_eq_true rfl) (Nat.le_of_ble_eq_true rfl) dL_take_20 (⟨⟨by rw [hc9], by rw [hc9]; decide⟩, ⟨_, hob.kept (hk9.2 _ hob.lt), fun z => by rw [hc9] at z; cases z⟩, tg, by rw [hs9]; exact hR.kp hk9, TX.rf, f7⟩)
    · subst hE
      have hs9 : (oTake M x kd).2.2 = M := es_take (by rw [hc9]; decide)
      have f7 : FR tg (fun t => t ≠ 0 ∧ t ≠ 8) H Hx := FR.kp hk9
      refine vx_catch (own := RL) (name := "java/lang/IllegalStateException") (E := "java/lang/IllegalStateException") hown (tableOf [(0, 10, 13, 19), (0, 10, 17, 25)]) ⟨0, 10, 21, 13⟩ (tableOf []) (htb.trans rfl) (PsR.cs (PsR.on (nm := "java/util/NoSuchElementException") (by decide) (hts (.classLink RL 19 "java/util/NoSuchElementException") (by decide +kernel)) (hev.2.2.2.2.1.1.1 ("java/lang/IllegalStateException", "java/util/NoSuchElementException") (by decide +kernel))) (PsR.cs (PsR.on (nm := "java/lang/IllegalArgumentException") (by decide) (hts (.classLink RL 25 "java/lang/IllegalArgumentException") (by decide +kernel)) (hev.2.2.2.2.1.1.1 ("java/lang/IllegalStateException", "java/lang/IllegalArgumentException") (by decide +kernel))) PsR.nl)) (by decide) (by decide) (hts (.classLink RL 13 "java/lang/IllegalStateException") (by decide +kernel)) (va_Nw.use rfl (hev.2.2.2.1 ("java/lang/IllegalStateException", "java/lang/IllegalStateException") (by decide +kernel))) h7 h8 h9 ?_
      refine lv_astore (lv' := [(4, .ref qx), (0, .ref b0), (1, .int x), (2, .int kd), (3, .ref ob)]) hx hb dL_take_21 hl (by decide) rfl (fun ls hl => ?_)
      refine lv_iconst (v := nI 3) hx hb dL_take_23 (by decide) ?_
      exact r_i hx hb hrt9 hlk hS (Nat.le_of_ble_eq_true rfl) (Nat.le_of_ble_eq_true rfl) dL_take_24 (⟨⟨by rw [hc9], by rw [hc9]; decide⟩, ⟨_, hob.kept (hk9.2 _ hob.lt), fun z => by rw [hc9] at z; cases z⟩, tg, by rw [hs9]; exact hR.kp hk9, TX.rf, f7⟩)
  -- on
  obtain ⟨h1, h2, tg1, hR1, tx, f1⟩ := hP
  refine x_top (y := (((oTake M x kd).2.1))) (h2) ?_
  have hob1 := hob.kept (f1.2 _ hob.lt (by rw [hot]; decide))
  have hot1 := (tx _ hob.lt).trans hot
  refine lv_i2l (v := (((oTake M x kd).2.1)).toInt64) hx hb dL_take_8 rfl ?_
  refine x_last (i := 0) (x := (((oTake M x kd).2.1)).toInt64) hx hb hK hS hob1 hAo (by omega) (by decide) dL_take_9 (fun H2 locs2 hob2 hz2 hq2 hS => ?_)
  have f2 : FR tg1 (fun t => t = 7) H1 H2 := ⟨by omega, fun q9 _ h8 => hq2 q9 (fun z => h8 (by rw [z]; exact hot1))⟩
  have hR2 := hR1.out f2 (Or.inl rfl)
  have f3 : FR tg (fun t => t ≠ 0 ∧ t ≠ 8) H H2 := (f1.wk (fun t z => ⟨z.1, z.2.2⟩)).tr tx (f2.wk (fun t z => by omega))
  refine lv_goto (tgt := 25) hx hb dL_take_10 (by decide) ?_
  refine lv_iconst (v := nI 0) hx hb dL_take_25 (by decide) ?_
  exact r_i hx hb hrt9 hlk hS (Nat.le_of_ble_eq_true rfl) (Nat.le_of_ble_eq_true rfl) dL_take_26 (⟨⟨by rw [h1], by rw [h1]; decide⟩, ⟨_, hob2, fun _ => if_pos rfl⟩, tg1, hR2, tx, f3⟩)
set_option maxHeartbeats 4000000 in
set_option maxRecDepth 100000 in
theorem c_L_children (l : Launch) {D : va_G} {T : Nat → ClassId} {dE mi : Nat} (hst : l.stackTraces = false) {A : Nat → Prop} {H : Heap} {b0 bd : Nat} {tg : Nat → Nat} {M : mSt} (hR : RepT D T dE b0 A tg H M) (hI : Inv bd M) (x : Int32) {ob : Nat} {f0 : Nat → Int64} (hob : jc (T 4) H ob 1 f0) (hot : tg ob = 7) (hAo : A ob) : vx_Met l yL_children wsL_children (rmL 8 1 6) (PcE D T dE mi A H [.ref b0, .int x, .ref ob]) (QI A (PW D T dE b0 A tg H ob (oChildren M x))) (XX A (XN)) 1 6 A := by
  refine entryH (hh := [(0, 9, 12, 19)]) (cc := cL_children) (maxL := 4) (ret := (some .int)) (by decide) rfl (Nat.le_of_ble_eq_true rfl) ?_
  intro p e s m args below meth c hx hb hrt9 hml hown hts hlk htb hnm hev hS ls hl
  have hown : s.vm.findClass RL = some m.cls := hown
  have hK := hev.1
  have hl : lv_has ls 4 [(0, .ref b0), (1, .int x), (2, .ref ob)] := hl
  obtain ⟨y, zq, zy, wo, hC, hQ, hY, hW, hwo⟩ := id hR
  have hX := hC.2.1
  have hrv : ∃ cell : Cell, H[b0]? = some cell ∧ cell.vm.isStatics = false ∧ s.vm.findClass "Archeloft" = some cell.cls := x_recv hK hX.1 rfl
  refine lv_aload_n hx hb dL_children_0 rfl (lv_at hl 2 rfl) ?_
  refine lv_iconst (v := nI 0) hx hb dL_children_1 (by decide) ?_
  refine lv_aload_n hx hb dL_children_2 rfl (lv_at hl 0 rfl) ?_
  refine lv_iload_n hx hb dL_children_3 rfl (lv_at hl 1 rfl) ?_
  refine k_i (k_V (As := [.int x]) (rest := [.int (nI 0), .ref ob]) ⟨hx, hb, hml, hown, hts⟩ hev hS (u_children l hst hR hI x) (cwV 1 hts gL_children_X6_children rfl rfl rfl (by decide +kernel) ⟨Nat.le_of_ble_eq_true rfl, Nat.le_of_ble_eq_true rfl⟩) (x_recv hK hX.1 rfl) rfl hl.1 (Nat.le_of_ble_eq_true rfl) dL_children_4 (Nat.le_of_ble_eq_true rfl) (Nat.le_of_ble_eq_true rfl)) hS (fun E9 ce9 qx Hx locsx hx9 hzx hS h7 h8 h9 => ?_) (fun rq1_ H1 locs1 hP hz1 hS => ?_)
  · obtain ⟨hm9, hk9⟩ := hx9
    obtain ⟨hE, hc9⟩ := mem1 hm9
    · subst hE
      have hs9 : (oChildren M x).2.2 = M := es_children (by rw [hc9]; decide)
      have f7 : FR tg (fun t => t ≠ 0 ∧ t ≠ 8) H Hx := FR.kp hk9
      refine vx_catch (own := RL) (name := "java/util/NoSuchElementException") (E := "java/util/NoSuchElementException") hown (tableOf []) ⟨0, 9, 12, 19⟩ (tableOf []) (htb.trans rfl) PsR.nl (by decide) (by decide) (hts (.classLink RL 19 "java/util/NoSuchElementException") (by decide +kernel)) (va_Nw.use rfl (hev.2.2.2.1 ("java/util/NoSuchElementException", "java/util/NoSuchElementException") (by decide +kernel))) h7 h8 h9 ?_
      refine lv_astore_n (lv' := [(3, .ref qx), (0, .ref b0), (1, .int x), (2, .ref ob)]) hx hb dL_children_12 rfl hl (by decide) rfl (fun ls hl => ?_)
      refine lv_iconst (v := nI 1) hx hb dL_children_13 (by decide) ?_
      exact r_i hx hb hrt9 hlk hS (Nat.le_of_ble_eq_true rfl) (Nat.le_of_ble_eq_true rfl) dL_children_14 (⟨⟨by rw [hc9], by rw [hc9]; decide⟩, ⟨_, hob.kept (hk9.2 _ hob.lt), fun z => by rw [hc9] at z; cases z⟩, tg, by rw [hs9]; exact hR.kp hk9, TX.rf, f7⟩)
  -- on
  obtain ⟨h1, h2, tg1, hR1, tx, f1⟩ := hP
  refine x_top (y := (((oChildren M x).2.1))) (h2) ?_
  have hob1 := hob.kept (f1.2 _ hob.lt (by rw [hot]; decide))
  have hot1 := (tx _ hob.lt).trans hot
  refine lv_i2l (v := (((oChildren M x).2.1)).toInt64) hx hb dL_children_7 rfl ?_
  refine x_last (i := 0) (x := (((oChildren M x).2.1)).toInt64) hx hb hK hS hob1 hAo (by omega) (by decide) dL_children_8 (fun H2 locs2 hob2 hz2 hq2 hS => ?_)
  have f2 : FR tg1 (fun t => t = 7) H1 H2 := ⟨by omega, fun q9 _ h8 => hq2 q9 (fun z => h8 (by rw [z]; exact hot1))⟩
  have hR2 := hR1.out f2 (Or.inl rfl)
  have f3 : FR tg (fun t => t ≠ 0 ∧ t ≠ 8) H H2 := (f1.wk (fun t z => ⟨z.1, z.2.2⟩)).tr tx (f2.wk (fun t z => by omega))
  refine lv_goto (tgt := 15) hx hb dL_children_9 (by decide) ?_
  refine lv_iconst (v := nI 0) hx hb dL_children_15 (by decide) ?_
  exact r_i hx hb hrt9 hlk hS (Nat.le_of_ble_eq_true rfl) (Nat.le_of_ble_eq_true rfl) dL_children_16 (⟨⟨by rw [h1], by rw [h1]; decide⟩, ⟨_, hob2, fun _ => if_pos rfl⟩, tg1, hR2, tx, f3⟩)
set_option maxHeartbeats 4000000 in
set_option maxRecDepth 100000 in
theorem c_L_kinds (l : Launch) {D : va_G} {T : Nat → ClassId} {dE mi : Nat} (hst : l.stackTraces = false) {A : Nat → Prop} {H : Heap} {b0 bd : Nat} {tg : Nat → Nat} {M : mSt} (hR : RepT D T dE b0 A tg H M) (hI : Inv bd M) (x : Int32) {ob : Nat} {f0 : Nat → Int64} (hob : jc (T 4) H ob 1 f0) (hot : tg ob = 7) (hAo : A ob) : vx_Met l yL_kinds wsL_kinds (rmL 8 1 6) (PcE D T dE mi A H [.ref b0, .int x, .ref ob]) (QI A (PW D T dE b0 A tg H ob (oKinds M x))) (XX A (XN)) 1 6 A := by
  refine entryH (hh := [(0, 9, 12, 19)]) (cc := cL_kinds) (maxL := 4) (ret := (some .int)) (by decide) rfl (Nat.le_of_ble_eq_true rfl) ?_
  intro p e s m args below meth c hx hb hrt9 hml hown hts hlk htb hnm hev hS ls hl
  have hown : s.vm.findClass RL = some m.cls := hown
  have hK := hev.1
  have hl : lv_has ls 4 [(0, .ref b0), (1, .int x), (2, .ref ob)] := hl
  obtain ⟨y, zq, zy, wo, hC, hQ, hY, hW, hwo⟩ := id hR
  have hX := hC.2.1
  have hrv : ∃ cell : Cell, H[b0]? = some cell ∧ cell.vm.isStatics = false ∧ s.vm.findClass "Archeloft" = some cell.cls := x_recv hK hX.1 rfl
  refine lv_aload_n hx hb dL_kinds_0 rfl (lv_at hl 2 rfl) ?_
  refine lv_iconst (v := nI 0) hx hb dL_kinds_1 (by decide) ?_
  refine lv_aload_n hx hb dL_kinds_2 rfl (lv_at hl 0 rfl) ?_
  refine lv_iload_n hx hb dL_kinds_3 rfl (lv_at hl 1 rfl) ?_
  refine k_i (k_V (As := [.int x]) (rest := [.int (nI 0), .ref ob]) ⟨hx, hb, hml, hown, hts⟩ hev hS (u_kinds l hst hR hI x) (cwV 1 hts gL_kinds_X6_kinds rfl rfl rfl (by decide +kernel) ⟨Nat.le_of_ble_eq_true rfl, Nat.le_of_ble_eq_true rfl⟩) (x_recv hK hX.1 rfl) rfl hl.1 (Nat.le_of_ble_eq_true rfl) dL_kinds_4 (Nat.le_of_ble_eq_true rfl) (Nat.le_of_ble_eq_true rfl)) hS (fun E9 ce9 qx Hx locsx hx9 hzx hS h7 h8 h9 => ?_) (fun rq1_ H1 locs1 hP hz1 hS => ?_)
  · obtain ⟨hm9, hk9⟩ := hx9
    obtain ⟨hE, hc9⟩ := mem1 hm9
    · subst hE
      have hs9 : (oKinds M x).2.2 = M := es_kinds (by rw [hc9]; decide)
      have f7 : FR tg (fun t => t ≠ 0 ∧ t ≠ 8) H Hx := FR.kp hk9
      refine vx_catch (own := RL) (name := "java/util/NoSuchElementException") (E := "java/util/NoSuchElementException") hown (tableOf []) ⟨0, 9, 12, 19⟩ (tableOf []) (htb.trans rfl) PsR.nl (by decide) (by decide) (hts (.classLink RL 19 "java/util/NoSuchElementException") (by decide +kernel)) (va_Nw.use rfl (hev.2.2.2.1 ("java/util/NoSuchElementException", "java/util/NoSuchElementException") (by decide +kernel))) h7 h8 h9 ?_
      refine lv_astore_n (lv' := [(3, .ref qx), (0, .ref b0), (1, .int x), (2, .ref ob)]) hx hb dL_kinds_12 rfl hl (by decide) rfl (fun ls hl => ?_)
      refine lv_iconst (v := nI 1) hx hb dL_kinds_13 (by decide) ?_
      exact r_i hx hb hrt9 hlk hS (Nat.le_of_ble_eq_true rfl) (Nat.le_of_ble_eq_true rfl) dL_kinds_14 (⟨⟨by rw [hc9], by rw [hc9]; decide⟩, ⟨_, hob.kept (hk9.2 _ hob.lt), fun z => by rw [hc9] at z; cases z⟩, tg, by rw [hs9]; exact hR.kp hk9, TX.rf, f7⟩)
  -- on
  obtain ⟨h1, h2, tg1, hR1, tx, f1⟩ := hP
  refine x_top (y := (((oKinds M x).2.1))) (h2) ?_
  have hob1 := hob.kept (f1.2 _ hob.lt (by rw [hot]; decide))
  have hot1 := (tx _ hob.lt).trans hot
  refine lv_i2l (v := (((oKinds M x).2.1)).toInt64) hx hb dL_kinds_7 rfl ?_
  refine x_last (i := 0) (x := (((oKinds M x).2.1)).toInt64) hx hb hK hS hob1 hAo (by omega) (by decide) dL_kinds_8 (fun H2 locs2 hob2 hz2 hq2 hS => ?_)
  have f2 : FR tg1 (fun t => t = 7) H1 H2 := ⟨by omega, fun q9 _ h8 => hq2 q9 (fun z => h8 (by rw [z]; exact hot1))⟩
  have hR2 := hR1.out f2 (Or.inl rfl)
  have f3 : FR tg (fun t => t ≠ 0 ∧ t ≠ 8) H H2 := (f1.wk (fun t z => ⟨z.1, z.2.2⟩)).tr tx (f2.wk (fun t z => by omega))
  refine lv_goto (tgt := 15) hx hb dL_kinds_9 (by decide) ?_
  refine lv_iconst (v := nI 0) hx hb dL_kinds_15 (by decide) ?_
  exact r_i hx hb hrt9 hlk hS (Nat.le_of_ble_eq_true rfl) (Nat.le_of_ble_eq_true rfl) dL_kinds_16 (⟨⟨by rw [h1], by rw [h1]; decide⟩, ⟨_, hob2, fun _ => if_pos rfl⟩, tg1, hR2, tx, f3⟩)
set_option maxHeartbeats 4000000 in
set_option maxRecDepth 100000 in
theorem c_L_value (l : Launch) {D : va_G} {T : Nat → ClassId} {dE mi : Nat} (hst : l.stackTraces = false) {A : Nat → Prop} {H : Heap} {b0 bd : Nat} {tg : Nat → Nat} {M : mSt} (hR : RepT D T dE b0 A tg H M) (hI : Inv bd M) (x kd : Int32) {ob : Nat} {f0 : Nat → Int64} (hob : jc (T 4) H ob 1 f0) (hot : tg ob = 7) (hAo : A ob) : vx_Met l yL_value wsL_value (rmL 9 3 18) (PcE D T dE mi A H [.ref b0, .int x, .int kd, .ref ob]) (QI A (PW D T dE b0 A tg H ob (oValue M x kd))) (XX A (XN)) 3 18 A := by
  refine entryH (hh := [(0, 10, 13, 19), (0, 10, 17, 25), (0, 10, 21, 13)]) (cc := cL_value) (maxL := 5) (ret := (some .int)) (by decide) rfl (Nat.le_of_ble_eq_true rfl) ?_
  intro p e s m args below meth c hx hb hrt9 hml hown hts hlk htb hnm hev hS ls hl
  have hown : s.vm.findClass RL = some m.cls := hown
  have hK := hev.1
  have hl : lv_has ls 5 [(0, .ref b0), (1, .int x), (2, .int kd), (3, .ref ob)] := hl
  obtain ⟨y, zq, zy, wo, hC, hQ, hY, hW, hwo⟩ := id hR
  have hX := hC.2.1
  have hrv : ∃ cell : Cell, H[b0]? = some cell ∧ cell.vm.isStatics = false ∧ s.vm.findClass "Archeloft" = some cell.cls := x_recv hK hX.1 rfl
  refine lv_aload_n hx hb dL_value_0 rfl (lv_at hl 3 rfl) ?_
  refine lv_iconst (v := nI 0) hx hb dL_value_1 (by decide) ?_
  refine lv_aload_n hx hb dL_value_2 rfl (lv_at hl 0 rfl) ?_
  refine lv_iload_n hx hb dL_value_3 rfl (lv_at hl 1 rfl) ?_
  refine lv_iload_n hx hb dL_value_4 rfl (lv_at hl 2 rfl) ?_
  refine k_i (k_V (As := [.int x, .int kd]) (rest := [.int (nI 0), .ref ob]) ⟨hx, hb, hml, hown, hts⟩ hev hS (u_value l hst hR hI x kd) (cwV 2 hts gL_value_X6_value rfl rfl rfl (by decide +kernel) ⟨Nat.le_of_ble_eq_true rfl, Nat.le_of_ble_eq_true rfl⟩) (x_recv hK hX.1 rfl) rfl hl.1 (Nat.le_of_ble_eq_true rfl) dL_value_5 (Nat.le_of_ble_eq_true rfl) (Nat.le_of_ble_eq_true rfl)) hS (fun E9 ce9 qx Hx locsx hx9 hzx hS h7 h8 h9 => ?_) (fun rq1_ H1 locs1 hP hz1 hS => ?_)
  · obtain ⟨hm9, hk9⟩ := hx9
    rcases mem3 hm9 with ⟨hE, hc9⟩ | ⟨hE, hc9⟩ | ⟨hE, hc9⟩
    · subst hE
      have hs9 : (oValue M x kd).2.2 = M := es_value (by rw [hc9]; decide)
      have f7 : FR tg (fun t => t ≠ 0 ∧ t ≠ 8) H Hx := FR.kp hk9
      refine vx_catch (own := RL) (name := "java/util/NoSuchElementException") (E := "java/util/NoSuchElementException") hown (tableOf []) ⟨0, 10, 13, 19⟩ (tableOf [(0, 10, 17, 25), (0, 10, 21, 13)]) (htb.trans rfl) PsR.nl (by decide) (by decide) (hts (.classLink RL 19 "java/util/NoSuchElementException") (by decide +kernel)) (va_Nw.use rfl (hev.2.2.2.1 ("java/util/NoSuchElementException", "java/util/NoSuchElementException") (by decide +kernel))) h7 h8 h9 ?_
      refine lv_astore (lv' := [(4, .ref qx), (0, .ref b0), (1, .int x), (2, .int kd), (3, .ref ob)]) hx hb dL_value_13 hl (by decide) rfl (fun ls hl => ?_)
      refine lv_iconst (v := nI 1) hx hb dL_value_15 (by decide) ?_
      exact r_i hx hb hrt9 hlk hS (Nat.le_of_ble_eq_true rfl) (Nat.le_of_ble_eq_true rfl) dL_value_16 (⟨⟨by rw [hc9], by rw [hc9]; decide⟩, ⟨_, hob.kept (hk9.2 _ hob.lt), fun z => by rw [hc9] at z; cases z⟩, tg, by rw [hs9]; exact hR.kp hk9, TX.rf, f7⟩)
    · subst hE
      have hs9 : (oValue M x kd).2.2 = M := es_value (by rw [hc9]; decide)
      have f7 : FR tg (fun t => t ≠ 0 ∧ t ≠ 8) H Hx := FR.kp hk9
      refine vx_catch (own := RL) (name := "java/lang/IllegalArgumentException") (E := "java/lang/IllegalArgumentException") hown (tableOf [(0, 10, 13, 19)]) ⟨0, 10, 17, 25⟩ (tableOf [(0, 10, 21, 13)]) (htb.trans rfl) (PsR.cs (PsR.on (nm := "java/util/NoSuchElementException") (by decide) (hts (.classLink RL 19 "java/util/NoSuchElementException") (by decide +kernel)) (hev.2.2.2.2.1.1.1 ("java/lang/IllegalArgumentException", "java/util/NoSuchElementException") (by decide +kernel))) PsR.nl) (by decide) (by decide) (hts (.classLink RL 25 "java/lang/IllegalArgumentException") (by decide +kernel)) (va_Nw.use rfl (hev.2.2.2.1 ("java/lang/IllegalArgumentException", "java/lang/IllegalArgumentException") (by decide +kernel))) h7 h8 h9 ?_
      refine lv_astore (lv' := [(4, .ref qx), (0, .ref b0), (1, .int x), (2, .int kd), (3, .ref ob)]) hx hb dL_value_17 hl (by decide) rfl (fun ls hl => ?_)
      refine lv_iconst (v := nI 2) hx hb dL_value_19 (by decide) ?_
      exact r_i hx hb hrt9 hlk hS (Nat.le_of_ble_eq_true rfl) (Nat.le_of_ble_eq_true rfl) dL_value_20 (⟨⟨by rw [hc9], by rw [hc9]; decide⟩, ⟨_, hob.kept (hk9.2 _ hob.lt), fun z => by rw [hc9] at z; cases z⟩, tg, by rw [hs9]; exact hR.kp hk9, TX.rf, f7⟩)
    · subst hE
      have hs9 : (oValue M x kd).2.2 = M := es_value (by rw [hc9]; decide)
      have f7 : FR tg (fun t => t ≠ 0 ∧ t ≠ 8) H Hx := FR.kp hk9
      refine vx_catch (own := RL) (name := "java/lang/IllegalStateException") (E := "java/lang/IllegalStateException") hown (tableOf [(0, 10, 13, 19), (0, 10, 17, 25)]) ⟨0, 10, 21, 13⟩ (tableOf []) (htb.trans rfl) (PsR.cs (PsR.on (nm := "java/util/NoSuchElementException") (by decide) (hts (.classLink RL 19 "java/util/NoSuchElementException") (by decide +kernel)) (hev.2.2.2.2.1.1.1 ("java/lang/IllegalStateException", "java/util/NoSuchElementException") (by decide +kernel))) (PsR.cs (PsR.on (nm := "java/lang/IllegalArgumentException") (by decide) (hts (.classLink RL 25 "java/lang/IllegalArgumentException") (by decide +kernel)) (hev.2.2.2.2.1.1.1 ("java/lang/IllegalStateException", "java/lang/IllegalArgumentException") (by decide +kernel))) PsR.nl)) (by decide) (by decide) (hts (.classLink RL 13 "java/lang/IllegalStateException") (by decide +kernel)) (va_Nw.use rfl (hev.2.2.2.1 ("java/lang/IllegalStateException", "java/lang/IllegalStateException") (by decide +kernel))) h7 h8 h9 ?_
      refine lv_astore (lv' := [(4, .ref qx), (0, .ref b0), (1, .int x), (2, .int kd), (3, .ref ob)]) hx hb dL_value_21 hl (by decide) rfl (fun ls hl => ?_)
      refine lv_iconst (v := nI 3) hx hb dL_value_23 (by decide) ?_
      exact r_i hx hb hrt9 hlk hS (Nat.le_of_ble_eq_true rfl) (Nat.le_of_ble_eq_true rfl) dL_value_24 (⟨⟨by rw [hc9], by rw [hc9]; decide⟩, ⟨_, hob.kept (hk9.2 _ hob.lt), fun z => by rw [hc9] at z; cases z⟩, tg, by rw [hs9]; exact hR.kp hk9, TX.rf, f7⟩)
  -- on
  obtain ⟨h1, h2, tg1, hR1, tx, f1⟩ := hP
  refine x_top (y := (((oValue M x kd).2.1))) (h2) ?_
  have hob1 := hob.kept (f1.2 _ hob.lt (by rw [hot]; decide))
  have hot1 := (tx _ hob.lt).trans hot
  refine lv_i2l (v := (((oValue M x kd).2.1)).toInt64) hx hb dL_value_8 rfl ?_
  refine x_last (i := 0) (x := (((oValue M x kd).2.1)).toInt64) hx hb hK hS hob1 hAo (by omega) (by decide) dL_value_9 (fun H2 locs2 hob2 hz2 hq2 hS => ?_)
  have f2 : FR tg1 (fun t => t = 7) H1 H2 := ⟨by omega, fun q9 _ h8 => hq2 q9 (fun z => h8 (by rw [z]; exact hot1))⟩
  have hR2 := hR1.out f2 (Or.inl rfl)
  have f3 : FR tg (fun t => t ≠ 0 ∧ t ≠ 8) H H2 := (f1.wk (fun t z => ⟨z.1, z.2.2⟩)).tr tx (f2.wk (fun t z => by omega))
  refine lv_goto (tgt := 25) hx hb dL_value_10 (by decide) ?_
  refine lv_iconst (v := nI 0) hx hb dL_value_25 (by decide) ?_
  exact r_i hx hb hrt9 hlk hS (Nat.le_of_ble_eq_true rfl) (Nat.le_of_ble_eq_true rfl) dL_value_26 (⟨⟨by rw [h1], by rw [h1]; decide⟩, ⟨_, hob2, fun _ => if_pos rfl⟩, tg1, hR2, tx, f3⟩)
set_option maxHeartbeats 4000000 in
set_option maxRecDepth 100000 in
theorem c_L_mark (l : Launch) {D : va_G} {T : Nat → ClassId} {dE mi : Nat} (hst : l.stackTraces = false) {A : Nat → Prop} {H : Heap} {b0 bd : Nat} {tg : Nat → Nat} {M : mSt} (hR : RepT D T dE b0 A tg H M) (hI : Inv bd M) (x kd : Int32) {ob : Nat} {f0 : Nat → Int64} (hob : jc (T 4) H ob 1 f0) (hot : tg ob = 7) (hAo : A ob) : vx_Met l yL_mark wsL_mark (rmL 9 3 18) (PcE D T dE mi A H [.ref b0, .int x, .int kd, .ref ob]) (QI A (PW D T dE b0 A tg H ob (oMark M x kd))) (XX A (XN)) 3 18 A := by
  refine entryH (hh := [(0, 10, 13, 19), (0, 10, 17, 25), (0, 10, 21, 13)]) (cc := cL_mark) (maxL := 5) (ret := (some .int)) (by decide) rfl (Nat.le_of_ble_eq_true rfl) ?_
  intro p e s m args below meth c hx hb hrt9 hml hown hts hlk htb hnm hev hS ls hl
  have hown : s.vm.findClass RL = some m.cls := hown
  have hK := hev.1
  have hl : lv_has ls 5 [(0, .ref b0), (1, .int x), (2, .int kd), (3, .ref ob)] := hl
  obtain ⟨y, zq, zy, wo, hC, hQ, hY, hW, hwo⟩ := id hR
  have hX := hC.2.1
  have hrv : ∃ cell : Cell, H[b0]? = some cell ∧ cell.vm.isStatics = false ∧ s.vm.findClass "Archeloft" = some cell.cls := x_recv hK hX.1 rfl
  refine lv_aload_n hx hb dL_mark_0 rfl (lv_at hl 3 rfl) ?_
  refine lv_iconst (v := nI 0) hx hb dL_mark_1 (by decide) ?_
  refine lv_aload_n hx hb dL_mark_2 rfl (lv_at hl 0 rfl) ?_
  refine lv_iload_n hx hb dL_mark_3 rfl (lv_at hl 1 rfl) ?_
  refine lv_iload_n hx hb dL_mark_4 rfl (lv_at hl 2 rfl) ?_
  refine k_i (k_V (As := [.int x, .int kd]) (rest := [.int (nI 0), .ref ob]) ⟨hx, hb, hml, hown, hts⟩ hev hS (u_mark l hst hR hI x kd) (cwV 2 hts gL_mark_X6_mark rfl rfl rfl (by decide +kernel) ⟨Nat.le_of_ble_eq_true rfl, Nat.le_of_ble_eq_true rfl⟩) (x_recv hK hX.1 rfl) rfl hl.1 (Nat.le_of_ble_eq_true rfl) dL_mark_5 (Nat.le_of_ble_eq_true rfl) (Nat.le_of_ble_eq_true rfl)) hS (fun E9 ce9 qx Hx locsx hx9 hzx hS h7 h8 h9 => ?_) (fun rq1_ H1 locs1 hP hz1 hS => ?_)
  · obtain ⟨hm9, hk9⟩ := hx9
    rcases mem3 hm9 with ⟨hE, hc9⟩ | ⟨hE, hc9⟩ | ⟨hE, hc9⟩
    · subst hE
      have hs9 : (oMark M x kd).2.2 = M := es_mark (by rw [hc9]; decide)
      have f7 : FR tg (fun t => t ≠ 0 ∧ t ≠ 8) H Hx := FR.kp hk9
      refine vx_catch (own := RL) (name := "java/util/NoSuchElementException") (E := "java/util/NoSuchElementException") hown (tableOf []) ⟨0, 10, 13, 19⟩ (tableOf [(0, 10, 17, 25), (0, 10, 21, 13)]) (htb.trans rfl) PsR.nl (by decide) (by decide) (hts (.classLink RL 19 "java/util/NoSuchElementException") (by decide +kernel)) (va_Nw.use rfl (hev.2.2.2.1 ("java/util/NoSuchElementException", "java/util/NoSuchElementException") (by decide +kernel))) h7 h8 h9 ?_
      refine lv_astore (lv' := [(4, .ref qx), (0, .ref b0), (1, .int x), (2, .int kd), (3, .ref ob)]) hx hb dL_mark_13 hl (by decide) rfl (fun ls hl => ?_)
      refine lv_iconst (v := nI 1) hx hb dL_mark_15 (by decide) ?_
      exact r_i hx hb hrt9 hlk hS (Nat.le_of_ble_eq_true rfl) (Nat.le_of_ble_eq_true rfl) dL_mark_16 (⟨⟨by rw [hc9], by rw [hc9]; decide⟩, ⟨_, hob.kept (hk9.2 _ hob.lt), fun z => by rw [hc9] at z; cases z⟩, tg, by rw [hs9]; exact hR.kp hk9, TX.rf, f7⟩)
    · subst hE
      have hs9 : (oMark M x kd).2.2 = M := es_mark (by rw [hc9]; decide)
      have f7 : FR tg (fun t => t ≠ 0 ∧ t ≠ 8) H Hx := FR.kp hk9
      refine vx_catch (own := RL) (name := "java/lang/IllegalArgumentException") (E := "java/lang/IllegalArgumentException") hown (tableOf [(0, 10, 13, 19)]) ⟨0, 10, 17, 25⟩ (tableOf [(0, 10, 21, 13)]) (htb.trans rfl) (PsR.cs (PsR.on (nm := "java/util/NoSuchElementException") (by decide) (hts (.classLink RL 19 "java/util/NoSuchElementException") (by decide +kernel)) (hev.2.2.2.2.1.1.1 ("java/lang/IllegalArgumentException", "java/util/NoSuchElementException") (by decide +kernel))) PsR.nl) (by decide) (by decide) (hts (.classLink RL 25 "java/lang/IllegalArgumentException") (by decide +kernel)) (va_Nw.use rfl (hev.2.2.2.1 ("java/lang/IllegalArgumentException", "java/lang/IllegalArgumentException") (by decide +kernel))) h7 h8 h9 ?_
      refine lv_astore (lv' := [(4, .ref qx), (0, .ref b0), (1, .int x), (2, .int kd), (3, .ref ob)]) hx hb dL_mark_17 hl (by decide) rfl (fun ls hl => ?_)
      refine lv_iconst (v := nI 2) hx hb dL_mark_19 (by decide) ?_
      exact r_i hx hb hrt9 hlk hS (Nat.le_of_ble_eq_true rfl) (Nat.le_of_ble_eq_true rfl) dL_mark_20 (⟨⟨by rw [hc9], by rw [hc9]; decide⟩, ⟨_, hob.kept (hk9.2 _ hob.lt), fun z => by rw [hc9] at z; cases z⟩, tg, by rw [hs9]; exact hR.kp hk9, TX.rf, f7⟩)
    · subst hE
      have hs9 : (oMark M x kd).2.2 = M := es_mark (by rw [hc9]; decide)
      have f7 : FR tg (fun t => t ≠ 0 ∧ t ≠ 8) H Hx := FR.kp hk9
      refine vx_catch (own := RL) (name := "java/lang/IllegalStateException") (E := "java/lang/IllegalStateException") hown (tableOf [(0, 10, 13, 19), (0, 10, 17, 25)]) ⟨0, 10, 21, 13⟩ (tableOf []) (htb.trans rfl) (PsR.cs (PsR.on (nm := "java/util/NoSuchElementException") (by decide) (hts (.classLink RL 19 "java/util/NoSuchElementException") (by decide +kernel)) (hev.2.2.2.2.1.1.1 ("java/lang/IllegalStateException", "java/util/NoSuchElementException") (by decide +kernel))) (PsR.cs (PsR.on (nm := "java/lang/IllegalArgumentException") (by decide) (hts (.classLink RL 25 "java/lang/IllegalArgumentException") (by decide +kernel)) (hev.2.2.2.2.1.1.1 ("java/lang/IllegalStateException", "java/lang/IllegalArgumentException") (by decide +kernel))) PsR.nl)) (by decide) (by decide) (hts (.classLink RL 13 "java/lang/IllegalStateException") (by decide +kernel)) (va_Nw.use rfl (hev.2.2.2.1 ("java/lang/IllegalStateException", "java/lang/IllegalStateException") (by decide +kernel))) h7 h8 h9 ?_
      refine lv_astore (lv' := [(4, .ref qx), (0, .ref b0), (1, .int x), (2, .int kd), (3, .ref ob)]) hx hb dL_mark_21 hl (by decide) rfl (fun ls hl => ?_)
      refine lv_iconst (v := nI 3) hx hb dL_mark_23 (by decide) ?_
      exact r_i hx hb hrt9 hlk hS (Nat.le_of_ble_eq_true rfl) (Nat.le_of_ble_eq_true rfl) dL_mark_24 (⟨⟨by rw [hc9], by rw [hc9]; decide⟩, ⟨_, hob.kept (hk9.2 _ hob.lt), fun z => by rw [hc9] at z; cases z⟩, tg, by rw [hs9]; exact hR.kp hk9, TX.rf, f7⟩)
  -- on
  obtain ⟨h1, h2, tg1, hR1, tx, f1⟩ := hP
  refine x_top (y := (((oMark M x kd).2.1))) (h2) ?_
  have hob1 := hob.kept (f1.2 _ hob.lt (by rw [hot]; decide))
  have hot1 := (tx _ hob.lt).trans hot
  refine lv_i2l (v := (((oMark M x kd).2.1)).toInt64) hx hb dL_mark_8 rfl ?_
  refine x_last (i := 0) (x := (((oMark M x kd).2.1)).toInt64) hx hb hK hS hob1 hAo (by omega) (by decide) dL_mark_9 (fun H2 locs2 hob2 hz2 hq2 hS => ?_)
  have f2 : FR tg1 (fun t => t = 7) H1 H2 := ⟨by omega, fun q9 _ h8 => hq2 q9 (fun z => h8 (by rw [z]; exact hot1))⟩
  have hR2 := hR1.out f2 (Or.inl rfl)
  have f3 : FR tg (fun t => t ≠ 0 ∧ t ≠ 8) H H2 := (f1.wk (fun t z => ⟨z.1, z.2.2⟩)).tr tx (f2.wk (fun t z => by omega))
  refine lv_goto (tgt := 25) hx hb dL_mark_10 (by decide) ?_
  refine lv_iconst (v := nI 0) hx hb dL_mark_25 (by decide) ?_
  exact r_i hx hb hrt9 hlk hS (Nat.le_of_ble_eq_true rfl) (Nat.le_of_ble_eq_true rfl) dL_mark_26 (⟨⟨by rw [h1], by rw [h1]; decide⟩, ⟨_, hob2, fun _ => if_pos rfl⟩, tg1, hR2, tx, f3⟩)
set_option maxHeartbeats 4000000 in
set_option maxRecDepth 100000 in
theorem c_L_set (l : Launch) {D : va_G} {T : Nat → ClassId} {dE mi : Nat} (hst : l.stackTraces = false) {A : Nat → Prop} {H : Heap} {b0 bd : Nat} {tg : Nat → Nat} {M : mSt} (hR : RepT D T dE b0 A tg H M) (hI : Inv bd M) (x kd v : Int32) {ob : Nat} {f0 : Nat → Int64} (hob : jc (T 4) H ob 1 f0) (hot : tg ob = 7) (hAo : A ob) : vx_Met l yL_set wsL_set (rmL 9 3 18) (PcE D T dE mi A H [.ref b0, .int x, .int kd, .int v, .ref ob]) (QI A (PW D T dE b0 A tg H ob (oSet M x kd v))) (XX A (XN)) 3 18 A := by
  refine entryH (hh := [(0, 12, 15, 19), (0, 12, 19, 25), (0, 12, 23, 13)]) (cc := cL_set) (maxL := 6) (ret := (some .int)) (by decide) rfl (Nat.le_of_ble_eq_true rfl) ?_
  intro p e s m args below meth c hx hb hrt9 hml hown hts hlk htb hnm hev hS ls hl
  have hown : s.vm.findClass RL = some m.cls := hown
  have hK := hev.1
  have hl : lv_has ls 6 [(0, .ref b0), (1, .int x), (2, .int kd), (3, .int v), (4, .ref ob)] := hl
  obtain ⟨y, zq, zy, wo, hC, hQ, hY, hW, hwo⟩ := id hR
  have hX := hC.2.1
  have hrv : ∃ cell : Cell, H[b0]? = some cell ∧ cell.vm.isStatics = false ∧ s.vm.findClass "Archeloft" = some cell.cls := x_recv hK hX.1 rfl
  refine lv_aload hx hb dL_set_0 (lv_at hl 4 rfl) ?_
  refine lv_iconst (v := nI 0) hx hb dL_set_2 (by decide) ?_
  refine lv_aload_n hx hb dL_set_3 rfl (lv_at hl 0 rfl) ?_
  refine lv_iload_n hx hb dL_set_4 rfl (lv_at hl 1 rfl) ?_
  refine lv_iload_n hx hb dL_set_5 rfl (lv_at hl 2 rfl) ?_
  refine lv_iload_n hx hb dL_set_6 rfl (lv_at hl 3 rfl) ?_
  refine k_i (k_V (As := [.int x, .int kd, .int v]) (rest := [.int (nI 0), .ref ob]) ⟨hx, hb, hml, hown, hts⟩ hev hS (u_set l hst hR hI x kd v) (cwV 3 hts gL_set_X6_set rfl rfl rfl (by decide +kernel) ⟨Nat.le_of_ble_eq_true rfl, Nat.le_of_ble_eq_true rfl⟩) (x_recv hK hX.1 rfl) rfl hl.1 (Nat.le_of_ble_eq_true rfl) dL_set_7 (Nat.le_of_ble_eq_true rfl) (Nat.le_of_ble_eq_true rfl)) hS (fun E9 ce9 qx Hx locsx hx9 hzx hS h7 h8 h9 => ?_) (fun rq1_ H1 locs1 hP hz1 hS => ?_)
  · obtain ⟨hm9, hk9⟩ := hx9
    rcases mem3 hm9 with ⟨hE, hc9⟩ | ⟨hE, hc9⟩ | ⟨hE, hc9⟩
    · subst hE
      have hs9 : (oSet M x kd v).2.2 = M := es_set (by rw [hc9]; decide)
      have f7 : FR tg (fun t => t ≠ 0 ∧ t ≠ 8) H Hx := FR.kp hk9
      refine vx_catch (own := RL) (name := "java/util/NoSuchElementException") (E := "java/util/NoSuchElementException") hown (tableOf []) ⟨0, 12, 15, 19⟩ (tableOf [(0, 12, 19, 25), (0, 12, 23, 13)]) (htb.trans rfl) PsR.nl (by decide) (by decide) (hts (.classLink RL 19 "java/util/NoSuchElementException") (by decide +kernel)) (va_Nw.use rfl (hev.2.2.2.1 ("java/util/NoSuchElementException", "java/util/NoSuchElementException") (by decide +kernel))) h7 h8 h9 ?_
      refine lv_astore (lv' := [(5, .ref qx), (0, .ref b0), (1, .int x), (2, .int kd), (3, .int v), (4, .ref ob)]) hx hb dL_set_15 hl (by decide) rfl (fun ls hl => ?_)
      refine lv_iconst (v := nI 1) hx hb dL_set_17 (by decide) ?_
      exact r_i hx hb hrt9 hlk hS (Nat.le_of_ble_eq_true rfl) (Nat.le_of_ble_eq_true rfl) dL_set_18 (⟨⟨by rw [hc9], by rw [hc9]; decide⟩, ⟨_, hob.kept (hk9.2 _ hob.lt), fun z => by rw [hc9] at z; cases z⟩, tg, by rw [hs9]; exact hR.kp hk9, TX.rf, f7⟩)
    · subst hE
      have hs9 : (oSet M x kd v).2.2 = M := es_set (by rw [hc9]; decide)
      have f7 : FR tg (fun t => t ≠ 0 ∧ t ≠ 8) H Hx := FR.kp hk9
      refine vx_catch (own := RL) (name := "java/lang/IllegalArgumentException") (E := "java/lang/IllegalArgumentException") hown (tableOf [(0, 12, 15, 19)]) ⟨0, 12, 19, 25⟩ (tableOf [(0, 12, 23, 13)]) (htb.trans rfl) (PsR.cs (PsR.on (nm := "java/util/NoSuchElementException") (by decide) (hts (.classLink RL 19 "java/util/NoSuchElementException") (by decide +kernel)) (hev.2.2.2.2.1.1.1 ("java/lang/IllegalArgumentException", "java/util/NoSuchElementException") (by decide +kernel))) PsR.nl) (by decide) (by decide) (hts (.classLink RL 25 "java/lang/IllegalArgumentException") (by decide +kernel)) (va_Nw.use rfl (hev.2.2.2.1 ("java/lang/IllegalArgumentException", "java/lang/IllegalArgumentException") (by decide +kernel))) h7 h8 h9 ?_
      refine lv_astore (lv' := [(5, .ref qx), (0, .ref b0), (1, .int x), (2, .int kd), (3, .int v), (4, .ref ob)]) hx hb dL_set_19 hl (by decide) rfl (fun ls hl => ?_)
      refine lv_iconst (v := nI 2) hx hb dL_set_21 (by decide) ?_
      exact r_i hx hb hrt9 hlk hS (Nat.le_of_ble_eq_true rfl) (Nat.le_of_ble_eq_true rfl) dL_set_22 (⟨⟨by rw [hc9], by rw [hc9]; decide⟩, ⟨_, hob.kept (hk9.2 _ hob.lt), fun z => by rw [hc9] at z; cases z⟩, tg, by rw [hs9]; exact hR.kp hk9, TX.rf, f7⟩)
    · subst hE
      have hs9 : (oSet M x kd v).2.2 = M := es_set (by rw [hc9]; decide)
      have f7 : FR tg (fun t => t ≠ 0 ∧ t ≠ 8) H Hx := FR.kp hk9
      refine vx_catch (own := RL) (name := "java/lang/IllegalStateException") (E := "java/lang/IllegalStateException") hown (tableOf [(0, 12, 15, 19), (0, 12, 19, 25)]) ⟨0, 12, 23, 13⟩ (tableOf []) (htb.trans rfl) (PsR.cs (PsR.on (nm := "java/util/NoSuchElementException") (by decide) (hts (.classLink RL 19 "java/util/NoSuchElementException") (by decide +kernel)) (hev.2.2.2.2.1.1.1 ("java/lang/IllegalStateException", "java/util/NoSuchElementException") (by decide +kernel))) (PsR.cs (PsR.on (nm := "java/lang/IllegalArgumentException") (by decide) (hts (.classLink RL 25 "java/lang/IllegalArgumentException") (by decide +kernel)) (hev.2.2.2.2.1.1.1 ("java/lang/IllegalStateException", "java/lang/IllegalArgumentException") (by decide +kernel))) PsR.nl)) (by decide) (by decide) (hts (.classLink RL 13 "java/lang/IllegalStateException") (by decide +kernel)) (va_Nw.use rfl (hev.2.2.2.1 ("java/lang/IllegalStateException", "java/lang/IllegalStateException") (by decide +kernel))) h7 h8 h9 ?_
      refine lv_astore (lv' := [(5, .ref qx), (0, .ref b0), (1, .int x), (2, .int kd), (3, .int v), (4, .ref ob)]) hx hb dL_set_23 hl (by decide) rfl (fun ls hl => ?_)
      refine lv_iconst (v := nI 3) hx hb dL_set_25 (by decide) ?_
      exact r_i hx hb hrt9 hlk hS (Nat.le_of_ble_eq_true rfl) (Nat.le_of_ble_eq_true rfl) dL_set_26 (⟨⟨by rw [hc9], by rw [hc9]; decide⟩, ⟨_, hob.kept (hk9.2 _ hob.lt), fun z => by rw [hc9] at z; cases z⟩, tg, by rw [hs9]; exact hR.kp hk9, TX.rf, f7⟩)
  -- on
  obtain ⟨h1, h2, tg1, hR1, tx, f1⟩ := hP
  refine x_top (y := (((oSet M x kd v).2.1))) (h2) ?_
  have hob1 := hob.kept (f1.2 _ hob.lt (by rw [hot]; decide))
  have hot1 := (tx _ hob.lt).trans hot
  refine lv_i2l (v := (((oSet M x kd v).2.1)).toInt64) hx hb dL_set_10 rfl ?_
  refine x_last (i := 0) (x := (((oSet M x kd v).2.1)).toInt64) hx hb hK hS hob1 hAo (by omega) (by decide) dL_set_11 (fun H2 locs2 hob2 hz2 hq2 hS => ?_)
  have f2 : FR tg1 (fun t => t = 7) H1 H2 := ⟨by omega, fun q9 _ h8 => hq2 q9 (fun z => h8 (by rw [z]; exact hot1))⟩
  have hR2 := hR1.out f2 (Or.inl rfl)
  have f3 : FR tg (fun t => t ≠ 0 ∧ t ≠ 8) H H2 := (f1.wk (fun t z => ⟨z.1, z.2.2⟩)).tr tx (f2.wk (fun t z => by omega))
  refine lv_goto (tgt := 27) hx hb dL_set_12 (by decide) ?_
  refine lv_iconst (v := nI 0) hx hb dL_set_27 (by decide) ?_
  exact r_i hx hb hrt9 hlk hS (Nat.le_of_ble_eq_true rfl) (Nat.le_of_ble_eq_true rfl) dL_set_28 (⟨⟨by rw [h1], by rw [h1]; decide⟩, ⟨_, hob2, fun _ => if_pos rfl⟩, tg1, hR2, tx, f3⟩)
set_option maxHeartbeats 4000000 in
set_option maxRecDepth 100000 in
theorem c_L_setOf (l : Launch) {D : va_G} {T : Nat → ClassId} {dE mi : Nat} (hst : l.stackTraces = false) {A : Nat → Prop} {H : Heap} {b0 bd : Nat} {tg : Nat → Nat} {M : mSt} (hR : RepT D T dE b0 A tg H M) (hI : Inv bd M) (x : Int32) {ob : Nat} {f0 : Nat → Int64} (hob : jc (T 4) H ob 1 f0) (hot : tg ob = 7) (hAo : A ob) : vx_Met l yL_setOf wsL_setOf (rmL 8 1 6) (PcE D T dE mi A H [.ref b0, .int x, .ref ob]) (QI A (PW D T dE b0 A tg H ob (oSetOf M x))) (XX A (XN)) 1 6 A := by
  refine entryH (hh := [(0, 9, 12, 52)]) (cc := cL_setOf) (maxL := 4) (ret := (some .int)) (by decide) rfl (Nat.le_of_ble_eq_true rfl) ?_
  intro p e s m args below meth c hx hb hrt9 hml hown hts hlk htb hnm hev hS ls hl
  have hown : s.vm.findClass RL = some m.cls := hown
  have hK := hev.1
  have hl : lv_has ls 4 [(0, .ref b0), (1, .int x), (2, .ref ob)] := hl
  obtain ⟨y, zq, zy, wo, hC, hQ, hY, hW, hwo⟩ := id hR
  have hX := hC.2.1
  have hrv : ∃ cell : Cell, H[b0]? = some cell ∧ cell.vm.isStatics = false ∧ s.vm.findClass "Archeloft" = some cell.cls := x_recv hK hX.1 rfl
  refine lv_aload_n hx hb dL_setOf_0 rfl (lv_at hl 2 rfl) ?_
  refine lv_iconst (v := nI 0) hx hb dL_setOf_1 (by decide) ?_
  refine lv_aload_n hx hb dL_setOf_2 rfl (lv_at hl 0 rfl) ?_
  refine lv_iload_n hx hb dL_setOf_3 rfl (lv_at hl 1 rfl) ?_
  refine k_i (k_V (As := [.int x]) (rest := [.int (nI 0), .ref ob]) ⟨hx, hb, hml, hown, hts⟩ hev hS (u_setOf l hst hR hI x) (cwV 1 hts gL_setOf_X6_setOf rfl rfl rfl (by decide +kernel) ⟨Nat.le_of_ble_eq_true rfl, Nat.le_of_ble_eq_true rfl⟩) (x_recv hK hX.1 rfl) rfl hl.1 (Nat.le_of_ble_eq_true rfl) dL_setOf_4 (Nat.le_of_ble_eq_true rfl) (Nat.le_of_ble_eq_true rfl)) hS (fun E9 ce9 qx Hx locsx hx9 hzx hS h7 h8 h9 => ?_) (fun rq1_ H1 locs1 hP hz1 hS => ?_)
  · obtain ⟨hm9, hk9⟩ := hx9
    obtain ⟨hE, hc9⟩ := mem1 hm9
    · subst hE
      have hs9 : (oSetOf M x).2.2 = M := es_setOf (by rw [hc9]; decide)
      have f7 : FR tg (fun t => t ≠ 0 ∧ t ≠ 8) H Hx := FR.kp hk9
      refine vx_catch (own := RL) (name := "java/lang/IndexOutOfBoundsException") (E := "java/lang/IndexOutOfBoundsException") hown (tableOf []) ⟨0, 9, 12, 52⟩ (tableOf []) (htb.trans rfl) PsR.nl (by decide) (by decide) (hts (.classLink RL 52 "java/lang/IndexOutOfBoundsException") (by decide +kernel)) (va_Nw.use rfl (hev.2.2.2.1 ("java/lang/IndexOutOfBoundsException", "java/lang/IndexOutOfBoundsException") (by decide +kernel))) h7 h8 h9 ?_
      refine lv_astore_n (lv' := [(3, .ref qx), (0, .ref b0), (1, .int x), (2, .ref ob)]) hx hb dL_setOf_12 rfl hl (by decide) rfl (fun ls hl => ?_)
      refine lv_iconst (v := nI 1) hx hb dL_setOf_13 (by decide) ?_
      exact r_i hx hb hrt9 hlk hS (Nat.le_of_ble_eq_true rfl) (Nat.le_of_ble_eq_true rfl) dL_setOf_14 (⟨⟨by rw [hc9], by rw [hc9]; decide⟩, ⟨_, hob.kept (hk9.2 _ hob.lt), fun z => by rw [hc9] at z; cases z⟩, tg, by rw [hs9]; exact hR.kp hk9, TX.rf, f7⟩)
  -- on
  obtain ⟨h1, h2, tg1, hR1, tx, f1⟩ := hP
  refine x_top (y := (((oSetOf M x).2.1))) (h2) ?_
  have hob1 := hob.kept (f1.2 _ hob.lt (by rw [hot]; decide))
  have hot1 := (tx _ hob.lt).trans hot
  refine lv_i2l (v := (((oSetOf M x).2.1)).toInt64) hx hb dL_setOf_7 rfl ?_
  refine x_last (i := 0) (x := (((oSetOf M x).2.1)).toInt64) hx hb hK hS hob1 hAo (by omega) (by decide) dL_setOf_8 (fun H2 locs2 hob2 hz2 hq2 hS => ?_)
  have f2 : FR tg1 (fun t => t = 7) H1 H2 := ⟨by omega, fun q9 _ h8 => hq2 q9 (fun z => h8 (by rw [z]; exact hot1))⟩
  have hR2 := hR1.out f2 (Or.inl rfl)
  have f3 : FR tg (fun t => t ≠ 0 ∧ t ≠ 8) H H2 := (f1.wk (fun t z => ⟨z.1, z.2.2⟩)).tr tx (f2.wk (fun t z => by omega))
  refine lv_goto (tgt := 15) hx hb dL_setOf_9 (by decide) ?_
  refine lv_iconst (v := nI 0) hx hb dL_setOf_15 (by decide) ?_
  exact r_i hx hb hrt9 hlk hS (Nat.le_of_ble_eq_true rfl) (Nat.le_of_ble_eq_true rfl) dL_setOf_16 (⟨⟨by rw [h1], by rw [h1]; decide⟩, ⟨_, hob2, fun _ => if_pos rfl⟩, tg1, hR2, tx, f3⟩)
set_option maxHeartbeats 4000000 in
set_option maxRecDepth 100000 in
theorem c_L_size (l : Launch) {D : va_G} {T : Nat → ClassId} {dE mi : Nat} (hst : l.stackTraces = false) {A : Nat → Prop} {H : Heap} {b0 bd : Nat} {tg : Nat → Nat} {M : mSt} (hR : RepT D T dE b0 A tg H M) (hI : Inv bd M) (x : Int32) {ob : Nat} {f0 : Nat → Int64} (hob : jc (T 4) H ob 1 f0) (hot : tg ob = 7) (hAo : A ob) : vx_Met l yL_size wsL_size (rmL 8 1 6) (PcE D T dE mi A H [.ref b0, .int x, .ref ob]) (QI A (PW D T dE b0 A tg H ob (oSize M x))) (XX A (XN)) 1 6 A := by
  refine entryH (hh := [(0, 9, 12, 52)]) (cc := cL_size) (maxL := 4) (ret := (some .int)) (by decide) rfl (Nat.le_of_ble_eq_true rfl) ?_
  intro p e s m args below meth c hx hb hrt9 hml hown hts hlk htb hnm hev hS ls hl
  have hown : s.vm.findClass RL = some m.cls := hown
  have hK := hev.1
  have hl : lv_has ls 4 [(0, .ref b0), (1, .int x), (2, .ref ob)] := hl
  obtain ⟨y, zq, zy, wo, hC, hQ, hY, hW, hwo⟩ := id hR
  have hX := hC.2.1
  have hrv : ∃ cell : Cell, H[b0]? = some cell ∧ cell.vm.isStatics = false ∧ s.vm.findClass "Archeloft" = some cell.cls := x_recv hK hX.1 rfl
  refine lv_aload_n hx hb dL_size_0 rfl (lv_at hl 2 rfl) ?_
  refine lv_iconst (v := nI 0) hx hb dL_size_1 (by decide) ?_
  refine lv_aload_n hx hb dL_size_2 rfl (lv_at hl 0 rfl) ?_
  refine lv_iload_n hx hb dL_size_3 rfl (lv_at hl 1 rfl) ?_
  refine k_i (k_V (As := [.int x]) (rest := [.int (nI 0), .ref ob]) ⟨hx, hb, hml, hown, hts⟩ hev hS (u_size l hst hR hI x) (cwV 1 hts gL_size_X6_size rfl rfl rfl (by decide +kernel) ⟨Nat.le_of_ble_eq_true rfl, Nat.le_of_ble_eq_true rfl⟩) (x_recv hK hX.1 rfl) rfl hl.1 (Nat.le_of_ble_eq_true rfl) dL_size_4 (Nat.le_of_ble_eq_true rfl) (Nat.le_of_ble_eq_true rfl)) hS (fun E9 ce9 qx Hx locsx hx9 hzx hS h7 h8 h9 => ?_) (fun rq1_ H1 locs1 hP hz1 hS => ?_)
  · obtain ⟨hm9, hk9⟩ := hx9
    obtain ⟨hE, hc9⟩ := mem1 hm9
    · subst hE
      have hs9 : (oSize M x).2.2 = M := es_size (by rw [hc9]; decide)
      have f7 : FR tg (fun t => t ≠ 0 ∧ t ≠ 8) H Hx := FR.kp hk9
      refine vx_catch (own := RL) (name := "java/lang/IndexOutOfBoundsException") (E := "java/lang/IndexOutOfBoundsException") hown (tableOf []) ⟨0, 9, 12, 52⟩ (tableOf []) (htb.trans rfl) PsR.nl (by decide) (by decide) (hts (.classLink RL 52 "java/lang/IndexOutOfBoundsException") (by decide +kernel)) (va_Nw.use rfl (hev.2.2.2.1 ("java/lang/IndexOutOfBoundsException", "java/lang/IndexOutOfBoundsException") (by decide +kernel))) h7 h8 h9 ?_
      refine lv_astore_n (lv' := [(3, .ref qx), (0, .ref b0), (1, .int x), (2, .ref ob)]) hx hb dL_size_12 rfl hl (by decide) rfl (fun ls hl => ?_)
      refine lv_iconst (v := nI 1) hx hb dL_size_13 (by decide) ?_
      exact r_i hx hb hrt9 hlk hS (Nat.le_of_ble_eq_true rfl) (Nat.le_of_ble_eq_true rfl) dL_size_14 (⟨⟨by rw [hc9], by rw [hc9]; decide⟩, ⟨_, hob.kept (hk9.2 _ hob.lt), fun z => by rw [hc9] at z; cases z⟩, tg, by rw [hs9]; exact hR.kp hk9, TX.rf, f7⟩)
  -- on
  obtain ⟨h1, h2, tg1, hR1, tx, f1⟩ := hP
  refine x_top (y := (((oSize M x).2.1))) (h2) ?_
  have hob1 := hob.kept (f1.2 _ hob.lt (by rw [hot]; decide))
  have hot1 := (tx _ hob.lt).trans hot
  refine lv_i2l (v := (((oSize M x).2.1)).toInt64) hx hb dL_size_7 rfl ?_
  refine x_last (i := 0) (x := (((oSize M x).2.1)).toInt64) hx hb hK hS hob1 hAo (by omega) (by decide) dL_size_8 (fun H2 locs2 hob2 hz2 hq2 hS => ?_)
  have f2 : FR tg1 (fun t => t = 7) H1 H2 := ⟨by omega, fun q9 _ h8 => hq2 q9 (fun z => h8 (by rw [z]; exact hot1))⟩
  have hR2 := hR1.out f2 (Or.inl rfl)
  have f3 : FR tg (fun t => t ≠ 0 ∧ t ≠ 8) H H2 := (f1.wk (fun t z => ⟨z.1, z.2.2⟩)).tr tx (f2.wk (fun t z => by omega))
  refine lv_goto (tgt := 15) hx hb dL_size_9 (by decide) ?_
  refine lv_iconst (v := nI 0) hx hb dL_size_15 (by decide) ?_
  exact r_i hx hb hrt9 hlk hS (Nat.le_of_ble_eq_true rfl) (Nat.le_of_ble_eq_true rfl) dL_size_16 (⟨⟨by rw [h1], by rw [h1]; decide⟩, ⟨_, hob2, fun _ => if_pos rfl⟩, tg1, hR2, tx, f3⟩)
set_option maxHeartbeats 4000000 in
set_option maxRecDepth 100000 in
theorem c_L_entityAt (l : Launch) {D : va_G} {T : Nat → ClassId} {dE mi : Nat} (hst : l.stackTraces = false) {A : Nat → Prop} {H : Heap} {b0 bd : Nat} {tg : Nat → Nat} {M : mSt} (hR : RepT D T dE b0 A tg H M) (hI : Inv bd M) (x x2 : Int32) {ob : Nat} {f0 : Nat → Int64} (hob : jc (T 4) H ob 1 f0) (hot : tg ob = 7) (hAo : A ob) : vx_Met l yL_entityAt wsL_entityAt (rmL 8 2 12) (PcE D T dE mi A H [.ref b0, .int x, .int x2, .ref ob]) (QI A (PW D T dE b0 A tg H ob (oEntityAt M x x2))) (XX A (XN)) 2 12 A := by
  refine entryH (hh := [(0, 10, 13, 52)]) (cc := cL_entityAt) (maxL := 5) (ret := (some .int)) (by decide) rfl (Nat.le_of_ble_eq_true rfl) ?_
  intro p e s m args below meth c hx hb hrt9 hml hown hts hlk htb hnm hev hS ls hl
  have hown : s.vm.findClass RL = some m.cls := hown
  have hK := hev.1
  have hl : lv_has ls 5 [(0, .ref b0), (1, .int x), (2, .int x2), (3, .ref ob)] := hl
  obtain ⟨y, zq, zy, wo, hC, hQ, hY, hW, hwo⟩ := id hR
  have hX := hC.2.1
  have hrv : ∃ cell : Cell, H[b0]? = some cell ∧ cell.vm.isStatics = false ∧ s.vm.findClass "Archeloft" = some cell.cls := x_recv hK hX.1 rfl
  refine lv_aload_n hx hb dL_entityAt_0 rfl (lv_at hl 3 rfl) ?_
  refine lv_iconst (v := nI 0) hx hb dL_entityAt_1 (by decide) ?_
  refine lv_aload_n hx hb dL_entityAt_2 rfl (lv_at hl 0 rfl) ?_
  refine lv_iload_n hx hb dL_entityAt_3 rfl (lv_at hl 1 rfl) ?_
  refine lv_iload_n hx hb dL_entityAt_4 rfl (lv_at hl 2 rfl) ?_
  refine k_i (k_V (As := [.int x, .int x2]) (rest := [.int (nI 0), .ref ob]) ⟨hx, hb, hml, hown, hts⟩ hev hS (u_entityAt l hst hR hI x x2) (cwV 2 hts gL_entityAt_X6_entityAt rfl rfl rfl (by decide +kernel) ⟨Nat.le_of_ble_eq_true rfl, Nat.le_of_ble_eq_true rfl⟩) (x_recv hK hX.1 rfl) rfl hl.1 (Nat.le_of_ble_eq_true rfl) dL_entityAt_5 (Nat.le_of_ble_eq_true rfl) (Nat.le_of_ble_eq_true rfl)) hS (fun E9 ce9 qx Hx locsx hx9 hzx hS h7 h8 h9 => ?_) (fun rq1_ H1 locs1 hP hz1 hS => ?_)
  · obtain ⟨hm9, hk9⟩ := hx9
    obtain ⟨hE, hc9⟩ := mem1 hm9
    · subst hE
      have hs9 : (oEntityAt M x x2).2.2 = M := es_entityAt (by rw [hc9]; decide)
      have f7 : FR tg (fun t => t ≠ 0 ∧ t ≠ 8) H Hx := FR.kp hk9
      refine vx_catch (own := RL) (name := "java/lang/IndexOutOfBoundsException") (E := "java/lang/IndexOutOfBoundsException") hown (tableOf []) ⟨0, 10, 13, 52⟩ (tableOf []) (htb.trans rfl) PsR.nl (by decide) (by decide) (hts (.classLink RL 52 "java/lang/IndexOutOfBoundsException") (by decide +kernel)) (va_Nw.use rfl (hev.2.2.2.1 ("java/lang/IndexOutOfBoundsException", "java/lang/IndexOutOfBoundsException") (by decide +kernel))) h7 h8 h9 ?_
      refine lv_astore (lv' := [(4, .ref qx), (0, .ref b0), (1, .int x), (2, .int x2), (3, .ref ob)]) hx hb dL_entityAt_13 hl (by decide) rfl (fun ls hl => ?_)
      refine lv_iconst (v := nI 1) hx hb dL_entityAt_15 (by decide) ?_
      exact r_i hx hb hrt9 hlk hS (Nat.le_of_ble_eq_true rfl) (Nat.le_of_ble_eq_true rfl) dL_entityAt_16 (⟨⟨by rw [hc9], by rw [hc9]; decide⟩, ⟨_, hob.kept (hk9.2 _ hob.lt), fun z => by rw [hc9] at z; cases z⟩, tg, by rw [hs9]; exact hR.kp hk9, TX.rf, f7⟩)
  -- on
  obtain ⟨h1, h2, tg1, hR1, tx, f1⟩ := hP
  refine x_top (y := (((oEntityAt M x x2).2.1))) (h2) ?_
  have hob1 := hob.kept (f1.2 _ hob.lt (by rw [hot]; decide))
  have hot1 := (tx _ hob.lt).trans hot
  refine lv_i2l (v := (((oEntityAt M x x2).2.1)).toInt64) hx hb dL_entityAt_8 rfl ?_
  refine x_last (i := 0) (x := (((oEntityAt M x x2).2.1)).toInt64) hx hb hK hS hob1 hAo (by omega) (by decide) dL_entityAt_9 (fun H2 locs2 hob2 hz2 hq2 hS => ?_)
  have f2 : FR tg1 (fun t => t = 7) H1 H2 := ⟨by omega, fun q9 _ h8 => hq2 q9 (fun z => h8 (by rw [z]; exact hot1))⟩
  have hR2 := hR1.out f2 (Or.inl rfl)
  have f3 : FR tg (fun t => t ≠ 0 ∧ t ≠ 8) H H2 := (f1.wk (fun t z => ⟨z.1, z.2.2⟩)).tr tx (f2.wk (fun t z => by omega))
  refine lv_goto (tgt := 17) hx hb dL_entityAt_10 (by decide) ?_
  refine lv_iconst (v := nI 0) hx hb dL_entityAt_17 (by decide) ?_
  exact r_i hx hb hrt9 hlk hS (Nat.le_of_ble_eq_true rfl) (Nat.le_of_ble_eq_true rfl) dL_entityAt_18 (⟨⟨by rw [h1], by rw [h1]; decide⟩, ⟨_, hob2, fun _ => if_pos rfl⟩, tg1, hR2, tx, f3⟩)
set_option maxHeartbeats 4000000 in
set_option maxRecDepth 100000 in
theorem c_L_question (l : Launch) {D : va_G} {T : Nat → ClassId} {dE mi : Nat} (hst : l.stackTraces = false) {A : Nat → Prop} {H : Heap} {b0 bd : Nat} {tg : Nat → Nat} {M : mSt} (hR : RepT D T dE b0 A tg H M) (hI : Inv bd M) (x1 x2 x3 : Int32) {ob : Nat} {f0 : Nat → Int64} (hob : jc (T 4) H ob 1 f0) (hot : tg ob = 7) (hAo : A ob) : vx_Met l yL_question wsL_question (rmL 9 5 94) (PcE D T dE mi A H [.ref b0, .int x1, .int x2, .int x3, .ref ob]) (QI A (PW D T dE b0 A tg H ob (oQuestion M x1 x2 x3))) (XX A (XN)) 5 94 A := by
  refine entryH (hh := [(0, 12, 15, 25), (0, 12, 19, 13)]) (cc := cL_question) (maxL := 6) (ret := (some .int)) (by decide) rfl (Nat.le_of_ble_eq_true rfl) ?_
  intro p e s m args below meth c hx hb hrt9 hml hown hts hlk htb hnm hev hS ls hl
  have hown : s.vm.findClass RL = some m.cls := hown
  have hK := hev.1
  have hl : lv_has ls 6 [(0, .ref b0), (1, .int x1), (2, .int x2), (3, .int x3), (4, .ref ob)] := hl
  obtain ⟨y, zq, zy, wo, hC, hQ, hY, hW, hwo⟩ := id hR
  have hX := hC.2.1
  have hrv : ∃ cell : Cell, H[b0]? = some cell ∧ cell.vm.isStatics = false ∧ s.vm.findClass "Archeloft" = some cell.cls := x_recv hK hX.1 rfl
  refine lv_aload hx hb dL_question_0 (lv_at hl 4 rfl) ?_
  refine lv_iconst (v := nI 0) hx hb dL_question_2 (by decide) ?_
  refine lv_aload_n hx hb dL_question_3 rfl (lv_at hl 0 rfl) ?_
  refine lv_iload_n hx hb dL_question_4 rfl (lv_at hl 1 rfl) ?_
  refine lv_iload_n hx hb dL_question_5 rfl (lv_at hl 2 rfl) ?_
  refine lv_iload_n hx hb dL_question_6 rfl (lv_at hl 3 rfl) ?_
  refine k_i (k_V (As := [.int x1, .int x2, .int x3]) (rest := [.int (nI 0), .ref ob]) ⟨hx, hb, hml, hown, hts⟩ hev hS (u_question l hst hR hI x1 x2 x3) (cwV 3 hts gL_question_X6_question rfl rfl rfl (by decide +kernel) ⟨Nat.le_of_ble_eq_true rfl, Nat.le_of_ble_eq_true rfl⟩) (x_recv hK hX.1 rfl) rfl hl.1 (Nat.le_of_ble_eq_true rfl) dL_question_7 (Nat.le_of_ble_eq_true rfl) (Nat.le_of_ble_eq_true rfl)) hS (fun E9 ce9 qx Hx locsx hx9 hzx hS h7 h8 h9 => ?_) (fun rq1_ H1 locs1 hP hz1 hS => ?_)
  · obtain ⟨hm9, hk9⟩ := hx9
    rcases mem2 hm9 with ⟨hE, hc9⟩ | ⟨hE, hc9⟩
    · subst hE
      have hs9 : (oQuestion M x1 x2 x3).2.2 = M := es_question (by rw [hc9]; decide)
      have f7 : FR tg (fun t => t ≠ 0 ∧ t ≠ 8) H Hx := FR.kp hk9
      refine vx_catch (own := RL) (name := "java/lang/IllegalArgumentException") (E := "java/lang/IllegalArgumentException") hown (tableOf []) ⟨0, 12, 15, 25⟩ (tableOf [(0, 12, 19, 13)]) (htb.trans rfl) PsR.nl (by decide) (by decide) (hts (.classLink RL 25 "java/lang/IllegalArgumentException") (by decide +kernel)) (va_Nw.use rfl (hev.2.2.2.1 ("java/lang/IllegalArgumentException", "java/lang/IllegalArgumentException") (by decide +kernel))) h7 h8 h9 ?_
      refine lv_astore (lv' := [(5, .ref qx), (0, .ref b0), (1, .int x1), (2, .int x2), (3, .int x3), (4, .ref ob)]) hx hb dL_question_15 hl (by decide) rfl (fun ls hl => ?_)
      refine lv_iconst (v := nI 1) hx hb dL_question_17 (by decide) ?_
      exact r_i hx hb hrt9 hlk hS (Nat.le_of_ble_eq_true rfl) (Nat.le_of_ble_eq_true rfl) dL_question_18 (⟨⟨by rw [hc9], by rw [hc9]; decide⟩, ⟨_, hob.kept (hk9.2 _ hob.lt), fun z => by rw [hc9] at z; cases z⟩, tg, by rw [hs9]; exact hR.kp hk9, TX.rf, f7⟩)
    · subst hE
      have hs9 : (oQuestion M x1 x2 x3).2.2 = M := es_question (by rw [hc9]; decide)
      have f7 : FR tg (fun t => t ≠ 0 ∧ t ≠ 8) H Hx := FR.kp hk9
      refine vx_catch (own := RL) (name := "java/lang/IllegalStateException") (E := "java/lang/IllegalStateException") hown (tableOf [(0, 12, 15, 25)]) ⟨0, 12, 19, 13⟩ (tableOf []) (htb.trans rfl) (PsR.cs (PsR.on (nm := "java/lang/IllegalArgumentException") (by decide) (hts (.classLink RL 25 "java/lang/IllegalArgumentException") (by decide +kernel)) (hev.2.2.2.2.1.1.1 ("java/lang/IllegalStateException", "java/lang/IllegalArgumentException") (by decide +kernel))) PsR.nl) (by decide) (by decide) (hts (.classLink RL 13 "java/lang/IllegalStateException") (by decide +kernel)) (va_Nw.use rfl (hev.2.2.2.1 ("java/lang/IllegalStateException", "java/lang/IllegalStateException") (by decide +kernel))) h7 h8 h9 ?_
      refine lv_astore (lv' := [(5, .ref qx), (0, .ref b0), (1, .int x1), (2, .int x2), (3, .int x3), (4, .ref ob)]) hx hb dL_question_19 hl (by decide) rfl (fun ls hl => ?_)
      refine lv_iconst (v := nI 2) hx hb dL_question_21 (by decide) ?_
      exact r_i hx hb hrt9 hlk hS (Nat.le_of_ble_eq_true rfl) (Nat.le_of_ble_eq_true rfl) dL_question_22 (⟨⟨by rw [hc9], by rw [hc9]; decide⟩, ⟨_, hob.kept (hk9.2 _ hob.lt), fun z => by rw [hc9] at z; cases z⟩, tg, by rw [hs9]; exact hR.kp hk9, TX.rf, f7⟩)
  -- on
  obtain ⟨h1, h2, tg1, hR1, tx, f1⟩ := hP
  refine x_top (y := (((oQuestion M x1 x2 x3).2.1))) (h2) ?_
  have hob1 := hob.kept (f1.2 _ hob.lt (by rw [hot]; decide))
  have hot1 := (tx _ hob.lt).trans hot
  refine lv_i2l (v := (((oQuestion M x1 x2 x3).2.1)).toInt64) hx hb dL_question_10 rfl ?_
  refine x_last (i := 0) (x := (((oQuestion M x1 x2 x3).2.1)).toInt64) hx hb hK hS hob1 hAo (by omega) (by decide) dL_question_11 (fun H2 locs2 hob2 hz2 hq2 hS => ?_)
  have f2 : FR tg1 (fun t => t = 7) H1 H2 := ⟨by omega, fun q9 _ h8 => hq2 q9 (fun z => h8 (by rw [z]; exact hot1))⟩
  have hR2 := hR1.out f2 (Or.inl rfl)
  have f3 : FR tg (fun t => t ≠ 0 ∧ t ≠ 8) H H2 := (f1.wk (fun t z => ⟨z.1, z.2.2⟩)).tr tx (f2.wk (fun t z => by omega))
  refine lv_goto (tgt := 23) hx hb dL_question_12 (by decide) ?_
  refine lv_iconst (v := nI 0) hx hb dL_question_23 (by decide) ?_
  exact r_i hx hb hrt9 hlk hS (Nat.le_of_ble_eq_true rfl) (Nat.le_of_ble_eq_true rfl) dL_question_24 (⟨⟨by rw [h1], by rw [h1]; decide⟩, ⟨_, hob2, fun _ => if_pos rfl⟩, tg1, hR2, tx, f3⟩)
set_option maxHeartbeats 4000000 in
set_option maxRecDepth 100000 in
theorem c_L_system (l : Launch) {D : va_G} {T : Nat → ClassId} {dE mi : Nat} (hst : l.stackTraces = false) {A : Nat → Prop} {H : Heap} {b0 bd : Nat} {tg : Nat → Nat} {M : mSt} (hR : RepT D T dE b0 A tg H M) (hI : Inv bd M) (x1 x2 : Int32) {ob : Nat} {f0 : Nat → Int64} (hob : jc (T 4) H ob 1 f0) (hot : tg ob = 7) (hAo : A ob) : vx_Met l yL_system wsL_system (rmL 9 4 88) (PcE D T dE mi A H [.ref b0, .int x1, .int x2, .ref ob]) (QI A (PW D T dE b0 A tg H ob (oSystem M x1 x2))) (XX A (XN)) 4 88 A := by
  refine entryH (hh := [(0, 10, 13, 25), (0, 10, 17, 13)]) (cc := cL_system) (maxL := 5) (ret := (some .int)) (by decide) rfl (Nat.le_of_ble_eq_true rfl) ?_
  intro p e s m args below meth c hx hb hrt9 hml hown hts hlk htb hnm hev hS ls hl
  have hown : s.vm.findClass RL = some m.cls := hown
  have hK := hev.1
  have hl : lv_has ls 5 [(0, .ref b0), (1, .int x1), (2, .int x2), (3, .ref ob)] := hl
  obtain ⟨y, zq, zy, wo, hC, hQ, hY, hW, hwo⟩ := id hR
  have hX := hC.2.1
  have hrv : ∃ cell : Cell, H[b0]? = some cell ∧ cell.vm.isStatics = false ∧ s.vm.findClass "Archeloft" = some cell.cls := x_recv hK hX.1 rfl
  refine lv_aload_n hx hb dL_system_0 rfl (lv_at hl 3 rfl) ?_
  refine lv_iconst (v := nI 0) hx hb dL_system_1 (by decide) ?_
  refine lv_aload_n hx hb dL_system_2 rfl (lv_at hl 0 rfl) ?_
  refine lv_iload_n hx hb dL_system_3 rfl (lv_at hl 1 rfl) ?_
  refine lv_iload_n hx hb dL_system_4 rfl (lv_at hl 2 rfl) ?_
  refine k_i (k_V (As := [.int x1, .int x2]) (rest := [.int (nI 0), .ref ob]) ⟨hx, hb, hml, hown, hts⟩ hev hS (u_system l hst hR hI x1 x2) (cwV 2 hts gL_system_X6_system rfl rfl rfl (by decide +kernel) ⟨Nat.le_of_ble_eq_true rfl, Nat.le_of_ble_eq_true rfl⟩) (x_recv hK hX.1 rfl) rfl hl.1 (Nat.le_of_ble_eq_true rfl) dL_system_5 (Nat.le_of_ble_eq_true rfl) (Nat.le_of_ble_eq_true rfl)) hS (fun E9 ce9 qx Hx locsx hx9 hzx hS h7 h8 h9 => ?_) (fun rq1_ H1 locs1 hP hz1 hS => ?_)
  · obtain ⟨hm9, hk9⟩ := hx9
    rcases mem2 hm9 with ⟨hE, hc9⟩ | ⟨hE, hc9⟩
    · subst hE
      have hs9 : (oSystem M x1 x2).2.2 = M := es_system (by rw [hc9]; decide)
      have f7 : FR tg (fun t => t ≠ 0 ∧ t ≠ 8) H Hx := FR.kp hk9
      refine vx_catch (own := RL) (name := "java/lang/IllegalArgumentException") (E := "java/lang/IllegalArgumentException") hown (tableOf []) ⟨0, 10, 13, 25⟩ (tableOf [(0, 10, 17, 13)]) (htb.trans rfl) PsR.nl (by decide) (by decide) (hts (.classLink RL 25 "java/lang/IllegalArgumentException") (by decide +kernel)) (va_Nw.use rfl (hev.2.2.2.1 ("java/lang/IllegalArgumentException", "java/lang/IllegalArgumentException") (by decide +kernel))) h7 h8 h9 ?_
      refine lv_astore (lv' := [(4, .ref qx), (0, .ref b0), (1, .int x1), (2, .int x2), (3, .ref ob)]) hx hb dL_system_13 hl (by decide) rfl (fun ls hl => ?_)
      refine lv_iconst (v := nI 1) hx hb dL_system_15 (by decide) ?_
      exact r_i hx hb hrt9 hlk hS (Nat.le_of_ble_eq_true rfl) (Nat.le_of_ble_eq_true rfl) dL_system_16 (⟨⟨by rw [hc9], by rw [hc9]; decide⟩, ⟨_, hob.kept (hk9.2 _ hob.lt), fun z => by rw [hc9] at z; cases z⟩, tg, by rw [hs9]; exact hR.kp hk9, TX.rf, f7⟩)
    · subst hE
      have hs9 : (oSystem M x1 x2).2.2 = M := es_system (by rw [hc9]; decide)
      have f7 : FR tg (fun t => t ≠ 0 ∧ t ≠ 8) H Hx := FR.kp hk9
      refine vx_catch (own := RL) (name := "java/lang/IllegalStateException") (E := "java/lang/IllegalStateException") hown (tableOf [(0, 10, 13, 25)]) ⟨0, 10, 17, 13⟩ (tableOf []) (htb.trans rfl) (PsR.cs (PsR.on (nm := "java/lang/IllegalArgumentException") (by decide) (hts (.classLink RL 25 "java/lang/IllegalArgumentException") (by decide +kernel)) (hev.2.2.2.2.1.1.1 ("java/lang/IllegalStateException", "java/lang/IllegalArgumentException") (by decide +kernel))) PsR.nl) (by decide) (by decide) (hts (.classLink RL 13 "java/lang/IllegalStateException") (by decide +kernel)) (va_Nw.use rfl (hev.2.2.2.1 ("java/lang/IllegalStateException", "java/lang/IllegalStateException") (by decide +kernel))) h7 h8 h9 ?_
      refine lv_astore (lv' := [(4, .ref qx), (0, .ref b0), (1, .int x1), (2, .int x2), (3, .ref ob)]) hx hb dL_system_17 hl (by decide) rfl (fun ls hl => ?_)
      refine lv_iconst (v := nI 2) hx hb dL_system_19 (by decide) ?_
      exact r_i hx hb hrt9 hlk hS (Nat.le_of_ble_eq_true rfl) (Nat.le_of_ble_eq_true rfl) dL_system_20 (⟨⟨by rw [hc9], by rw [hc9]; decide⟩, ⟨_, hob.kept (hk9.2 _ hob.lt), fun z => by rw [hc9] at z; cases z⟩, tg, by rw [hs9]; exact hR.kp hk9, TX.rf, f7⟩)
  -- on
  obtain ⟨h1, h2, tg1, hR1, tx, f1⟩ := hP
  refine x_top (y := (((oSystem M x1 x2).2.1))) (h2) ?_
  have hob1 := hob.kept (f1.2 _ hob.lt (by rw [hot]; decide))
  have hot1 := (tx _ hob.lt).trans hot
  refine lv_i2l (v := (((oSystem M x1 x2).2.1)).toInt64) hx hb dL_system_8 rfl ?_
  refine x_last (i := 0) (x := (((oSystem M x1 x2).2.1)).toInt64) hx hb hK hS hob1 hAo (by omega) (by decide) dL_system_9 (fun H2 locs2 hob2 hz2 hq2 hS => ?_)
  have f2 : FR tg1 (fun t => t = 7) H1 H2 := ⟨by omega, fun q9 _ h8 => hq2 q9 (fun z => h8 (by rw [z]; exact hot1))⟩
  have hR2 := hR1.out f2 (Or.inl rfl)
  have f3 : FR tg (fun t => t ≠ 0 ∧ t ≠ 8) H H2 := (f1.wk (fun t z => ⟨z.1, z.2.2⟩)).tr tx (f2.wk (fun t z => by omega))
  refine lv_goto (tgt := 21) hx hb dL_system_10 (by decide) ?_
  refine lv_iconst (v := nI 0) hx hb dL_system_21 (by decide) ?_
  exact r_i hx hb hrt9 hlk hS (Nat.le_of_ble_eq_true rfl) (Nat.le_of_ble_eq_true rfl) dL_system_22 (⟨⟨by rw [h1], by rw [h1]; decide⟩, ⟨_, hob2, fun _ => if_pos rfl⟩, tg1, hR2, tx, f3⟩)
set_option maxHeartbeats 4000000 in
set_option maxRecDepth 100000 in
theorem c_L_answers (l : Launch) {D : va_G} {T : Nat → ClassId} {dE mi : Nat} (hst : l.stackTraces = false) {A : Nat → Prop} {H : Heap} {b0 bd : Nat} {tg : Nat → Nat} {M : mSt} (hR : RepT D T dE b0 A tg H M) (hI : Inv bd M) (x : Int32) {ob : Nat} {f0 : Nat → Int64} (hob : jc (T 4) H ob 1 f0) (hot : tg ob = 7) (hAo : A ob) : vx_Met l yL_answers wsL_answers (rmL 8 1 6) (PcE D T dE mi A H [.ref b0, .int x, .ref ob]) (QI A (PW D T dE b0 A tg H ob (oAnswers M x))) (XX A (XN)) 1 6 A := by
  refine entryH (hh := [(0, 9, 12, 52)]) (cc := cL_answers) (maxL := 4) (ret := (some .int)) (by decide) rfl (Nat.le_of_ble_eq_true rfl) ?_
  intro p e s m args below meth c hx hb hrt9 hml hown hts hlk htb hnm hev hS ls hl
  have hown : s.vm.findClass RL = some m.cls := hown
  have hK := hev.1
  have hl : lv_has ls 4 [(0, .ref b0), (1, .int x), (2, .ref ob)] := hl
  obtain ⟨y, zq, zy, wo, hC, hQ, hY, hW, hwo⟩ := id hR
  have hX := hC.2.1
  have hrv : ∃ cell : Cell, H[b0]? = some cell ∧ cell.vm.isStatics = false ∧ s.vm.findClass "Archeloft" = some cell.cls := x_recv hK hX.1 rfl
  refine lv_aload_n hx hb dL_answers_0 rfl (lv_at hl 2 rfl) ?_
  refine lv_iconst (v := nI 0) hx hb dL_answers_1 (by decide) ?_
  refine lv_aload_n hx hb dL_answers_2 rfl (lv_at hl 0 rfl) ?_
  refine lv_iload_n hx hb dL_answers_3 rfl (lv_at hl 1 rfl) ?_
  refine k_i (k_V (As := [.int x]) (rest := [.int (nI 0), .ref ob]) ⟨hx, hb, hml, hown, hts⟩ hev hS (u_answers l hst hR hI x) (cwV 1 hts gL_answers_X6_answers rfl rfl rfl (by decide +kernel) ⟨Nat.le_of_ble_eq_true rfl, Nat.le_of_ble_eq_true rfl⟩) (x_recv hK hX.1 rfl) rfl hl.1 (Nat.le_of_ble_eq_true rfl) dL_answers_4 (Nat.le_of_ble_eq_true rfl) (Nat.le_of_ble_eq_true rfl)) hS (fun E9 ce9 qx Hx locsx hx9 hzx hS h7 h8 h9 => ?_) (fun rq1_ H1 locs1 hP hz1 hS => ?_)
  · obtain ⟨hm9, hk9⟩ := hx9
    obtain ⟨hE, hc9⟩ := mem1 hm9
    · subst hE
      have hs9 : (oAnswers M x).2.2 = M := es_answers (by rw [hc9]; decide)
      have f7 : FR tg (fun t => t ≠ 0 ∧ t ≠ 8) H Hx := FR.kp hk9
      refine vx_catch (own := RL) (name := "java/lang/IndexOutOfBoundsException") (E := "java/lang/IndexOutOfBoundsException") hown (tableOf []) ⟨0, 9, 12, 52⟩ (tableOf []) (htb.trans rfl) PsR.nl (by decide) (by decide) (hts (.classLink RL 52 "java/lang/IndexOutOfBoundsException") (by decide +kernel)) (va_Nw.use rfl (hev.2.2.2.1 ("java/lang/IndexOutOfBoundsException", "java/lang/IndexOutOfBoundsException") (by decide +kernel))) h7 h8 h9 ?_
      refine lv_astore_n (lv' := [(3, .ref qx), (0, .ref b0), (1, .int x), (2, .ref ob)]) hx hb dL_answers_12 rfl hl (by decide) rfl (fun ls hl => ?_)
      refine lv_iconst (v := nI 1) hx hb dL_answers_13 (by decide) ?_
      exact r_i hx hb hrt9 hlk hS (Nat.le_of_ble_eq_true rfl) (Nat.le_of_ble_eq_true rfl) dL_answers_14 (⟨⟨by rw [hc9], by rw [hc9]; decide⟩, ⟨_, hob.kept (hk9.2 _ hob.lt), fun z => by rw [hc9] at z; cases z⟩, tg, by rw [hs9]; exact hR.kp hk9, TX.rf, f7⟩)
  -- on
  obtain ⟨h1, h2, tg1, hR1, tx, f1⟩ := hP
  refine x_top (y := (((oAnswers M x).2.1))) (h2) ?_
  have hob1 := hob.kept (f1.2 _ hob.lt (by rw [hot]; decide))
  have hot1 := (tx _ hob.lt).trans hot
  refine lv_i2l (v := (((oAnswers M x).2.1)).toInt64) hx hb dL_answers_7 rfl ?_
  refine x_last (i := 0) (x := (((oAnswers M x).2.1)).toInt64) hx hb hK hS hob1 hAo (by omega) (by decide) dL_answers_8 (fun H2 locs2 hob2 hz2 hq2 hS => ?_)
  have f2 : FR tg1 (fun t => t = 7) H1 H2 := ⟨by omega, fun q9 _ h8 => hq2 q9 (fun z => h8 (by rw [z]; exact hot1))⟩
  have hR2 := hR1.out f2 (Or.inl rfl)
  have f3 : FR tg (fun t => t ≠ 0 ∧ t ≠ 8) H H2 := (f1.wk (fun t z => ⟨z.1, z.2.2⟩)).tr tx (f2.wk (fun t z => by omega))
  refine lv_goto (tgt := 15) hx hb dL_answers_9 (by decide) ?_
  refine lv_iconst (v := nI 0) hx hb dL_answers_15 (by decide) ?_
  exact r_i hx hb hrt9 hlk hS (Nat.le_of_ble_eq_true rfl) (Nat.le_of_ble_eq_true rfl) dL_answers_16 (⟨⟨by rw [h1], by rw [h1]; decide⟩, ⟨_, hob2, fun _ => if_pos rfl⟩, tg1, hR2, tx, f3⟩)
set_option maxHeartbeats 4000000 in
set_option maxRecDepth 100000 in
theorem c_L_answersOneByOne (l : Launch) {D : va_G} {T : Nat → ClassId} {dE mi : Nat} (hst : l.stackTraces = false) {A : Nat → Prop} {H : Heap} {b0 bd : Nat} {tg : Nat → Nat} {M : mSt} (hR : RepT D T dE b0 A tg H M) (hI : Inv bd M) (x : Int32) {ob : Nat} {f0 : Nat → Int64} (hob : jc (T 4) H ob 1 f0) (hot : tg ob = 7) (hAo : A ob) : vx_Met l yL_answersOneByOne wsL_answersOneByOne (rmL 8 1 6) (PcE D T dE mi A H [.ref b0, .int x, .ref ob]) (QI A (PW D T dE b0 A tg H ob (oOneByOne M x))) (XX A (XN)) 1 6 A := by
  refine entryH (hh := [(0, 9, 12, 52)]) (cc := cL_answersOneByOne) (maxL := 4) (ret := (some .int)) (by decide) rfl (Nat.le_of_ble_eq_true rfl) ?_
  intro p e s m args below meth c hx hb hrt9 hml hown hts hlk htb hnm hev hS ls hl
  have hown : s.vm.findClass RL = some m.cls := hown
  have hK := hev.1
  have hl : lv_has ls 4 [(0, .ref b0), (1, .int x), (2, .ref ob)] := hl
  obtain ⟨y, zq, zy, wo, hC, hQ, hY, hW, hwo⟩ := id hR
  have hX := hC.2.1
  have hrv : ∃ cell : Cell, H[b0]? = some cell ∧ cell.vm.isStatics = false ∧ s.vm.findClass "Archeloft" = some cell.cls := x_recv hK hX.1 rfl
  refine lv_aload_n hx hb dL_answersOneByOne_0 rfl (lv_at hl 2 rfl) ?_
  refine lv_iconst (v := nI 0) hx hb dL_answersOneByOne_1 (by decide) ?_
  refine lv_aload_n hx hb dL_answersOneByOne_2 rfl (lv_at hl 0 rfl) ?_
  refine lv_iload_n hx hb dL_answersOneByOne_3 rfl (lv_at hl 1 rfl) ?_
  refine k_i (k_V (As := [.int x]) (rest := [.int (nI 0), .ref ob]) ⟨hx, hb, hml, hown, hts⟩ hev hS (u_answersOneByOne l hst hR hI x) (cwV 1 hts gL_answersOneByOne_X6_answersOneByOne rfl rfl rfl (by decide +kernel) ⟨Nat.le_of_ble_eq_true rfl, Nat.le_of_ble_eq_true rfl⟩) (x_recv hK hX.1 rfl) rfl hl.1 (Nat.le_of_ble_eq_true rfl) dL_answersOneByOne_4 (Nat.le_of_ble_eq_true rfl) (Nat.le_of_ble_eq_true rfl)) hS (fun E9 ce9 qx Hx locsx hx9 hzx hS h7 h8 h9 => ?_) (fun rq1_ H1 locs1 hP hz1 hS => ?_)
  · obtain ⟨hm9, hk9⟩ := hx9
    obtain ⟨hE, hc9⟩ := mem1 hm9
    · subst hE
      have hs9 : (oOneByOne M x).2.2 = M := es_answersOneByOne (by rw [hc9]; decide)
      have f7 : FR tg (fun t => t ≠ 0 ∧ t ≠ 8) H Hx := FR.kp hk9
      refine vx_catch (own := RL) (name := "java/lang/IndexOutOfBoundsException") (E := "java/lang/IndexOutOfBoundsException") hown (tableOf []) ⟨0, 9, 12, 52⟩ (tableOf []) (htb.trans rfl) PsR.nl (by decide) (by decide) (hts (.classLink RL 52 "java/lang/IndexOutOfBoundsException") (by decide +kernel)) (va_Nw.use rfl (hev.2.2.2.1 ("java/lang/IndexOutOfBoundsException", "java/lang/IndexOutOfBoundsException") (by decide +kernel))) h7 h8 h9 ?_
      refine lv_astore_n (lv' := [(3, .ref qx), (0, .ref b0), (1, .int x), (2, .ref ob)]) hx hb dL_answersOneByOne_12 rfl hl (by decide) rfl (fun ls hl => ?_)
      refine lv_iconst (v := nI 1) hx hb dL_answersOneByOne_13 (by decide) ?_
      exact r_i hx hb hrt9 hlk hS (Nat.le_of_ble_eq_true rfl) (Nat.le_of_ble_eq_true rfl) dL_answersOneByOne_14 (⟨⟨by rw [hc9], by rw [hc9]; decide⟩, ⟨_, hob.kept (hk9.2 _ hob.lt), fun z => by rw [hc9] at z; cases z⟩, tg, by rw [hs9]; exact hR.kp hk9, TX.rf, f7⟩)
  -- on
  obtain ⟨h1, h2, tg1, hR1, tx, f1⟩ := hP
  refine x_top (y := (((oOneByOne M x).2.1))) (h2) ?_
  have hob1 := hob.kept (f1.2 _ hob.lt (by rw [hot]; decide))
  have hot1 := (tx _ hob.lt).trans hot
  refine lv_i2l (v := (((oOneByOne M x).2.1)).toInt64) hx hb dL_answersOneByOne_7 rfl ?_
  refine x_last (i := 0) (x := (((oOneByOne M x).2.1)).toInt64) hx hb hK hS hob1 hAo (by omega) (by decide) dL_answersOneByOne_8 (fun H2 locs2 hob2 hz2 hq2 hS => ?_)
  have f2 : FR tg1 (fun t => t = 7) H1 H2 := ⟨by omega, fun q9 _ h8 => hq2 q9 (fun z => h8 (by rw [z]; exact hot1))⟩
  have hR2 := hR1.out f2 (Or.inl rfl)
  have f3 : FR tg (fun t => t ≠ 0 ∧ t ≠ 8) H H2 := (f1.wk (fun t z => ⟨z.1, z.2.2⟩)).tr tx (f2.wk (fun t z => by omega))
  refine lv_goto (tgt := 15) hx hb dL_answersOneByOne_9 (by decide) ?_
  refine lv_iconst (v := nI 0) hx hb dL_answersOneByOne_15 (by decide) ?_
  exact r_i hx hb hrt9 hlk hS (Nat.le_of_ble_eq_true rfl) (Nat.le_of_ble_eq_true rfl) dL_answersOneByOne_16 (⟨⟨by rw [h1], by rw [h1]; decide⟩, ⟨_, hob2, fun _ => if_pos rfl⟩, tg1, hR2, tx, f3⟩)
set_option maxHeartbeats 4000000 in
set_option maxRecDepth 100000 in
theorem c_L_answeringRows (l : Launch) {D : va_G} {T : Nat → ClassId} {dE mi : Nat} (hst : l.stackTraces = false) {A : Nat → Prop} {H : Heap} {b0 bd : Nat} {tg : Nat → Nat} {M : mSt} (hR : RepT D T dE b0 A tg H M) (hI : Inv bd M) (x : Int32) {ob : Nat} {f0 : Nat → Int64} (hob : jc (T 4) H ob 1 f0) (hot : tg ob = 7) (hAo : A ob) : vx_Met l yL_answeringRows wsL_answeringRows (rmL 8 1 6) (PcE D T dE mi A H [.ref b0, .int x, .ref ob]) (QI A (PW D T dE b0 A tg H ob (oAnsRows M x))) (XX A (XN)) 1 6 A := by
  refine entryH (hh := [(0, 9, 12, 52)]) (cc := cL_answeringRows) (maxL := 4) (ret := (some .int)) (by decide) rfl (Nat.le_of_ble_eq_true rfl) ?_
  intro p e s m args below meth c hx hb hrt9 hml hown hts hlk htb hnm hev hS ls hl
  have hown : s.vm.findClass RL = some m.cls := hown
  have hK := hev.1
  have hl : lv_has ls 4 [(0, .ref b0), (1, .int x), (2, .ref ob)] := hl
  obtain ⟨y, zq, zy, wo, hC, hQ, hY, hW, hwo⟩ := id hR
  have hX := hC.2.1
  have hrv : ∃ cell : Cell, H[b0]? = some cell ∧ cell.vm.isStatics = false ∧ s.vm.findClass "Archeloft" = some cell.cls := x_recv hK hX.1 rfl
  refine lv_aload_n hx hb dL_answeringRows_0 rfl (lv_at hl 2 rfl) ?_
  refine lv_iconst (v := nI 0) hx hb dL_answeringRows_1 (by decide) ?_
  refine lv_aload_n hx hb dL_answeringRows_2 rfl (lv_at hl 0 rfl) ?_
  refine lv_iload_n hx hb dL_answeringRows_3 rfl (lv_at hl 1 rfl) ?_
  refine k_i (k_V (As := [.int x]) (rest := [.int (nI 0), .ref ob]) ⟨hx, hb, hml, hown, hts⟩ hev hS (u_answeringRows l hst hR hI x) (cwV 1 hts gL_answeringRows_X6_answeringRows rfl rfl rfl (by decide +kernel) ⟨Nat.le_of_ble_eq_true rfl, Nat.le_of_ble_eq_true rfl⟩) (x_recv hK hX.1 rfl) rfl hl.1 (Nat.le_of_ble_eq_true rfl) dL_answeringRows_4 (Nat.le_of_ble_eq_true rfl) (Nat.le_of_ble_eq_true rfl)) hS (fun E9 ce9 qx Hx locsx hx9 hzx hS h7 h8 h9 => ?_) (fun rq1_ H1 locs1 hP hz1 hS => ?_)
  · obtain ⟨hm9, hk9⟩ := hx9
    obtain ⟨hE, hc9⟩ := mem1 hm9
    · subst hE
      have hs9 : (oAnsRows M x).2.2 = M := es_answeringRows (by rw [hc9]; decide)
      have f7 : FR tg (fun t => t ≠ 0 ∧ t ≠ 8) H Hx := FR.kp hk9
      refine vx_catch (own := RL) (name := "java/lang/IndexOutOfBoundsException") (E := "java/lang/IndexOutOfBoundsException") hown (tableOf []) ⟨0, 9, 12, 52⟩ (tableOf []) (htb.trans rfl) PsR.nl (by decide) (by decide) (hts (.classLink RL 52 "java/lang/IndexOutOfBoundsException") (by decide +kernel)) (va_Nw.use rfl (hev.2.2.2.1 ("java/lang/IndexOutOfBoundsException", "java/lang/IndexOutOfBoundsException") (by decide +kernel))) h7 h8 h9 ?_
      refine lv_astore_n (lv' := [(3, .ref qx), (0, .ref b0), (1, .int x), (2, .ref ob)]) hx hb dL_answeringRows_12 rfl hl (by decide) rfl (fun ls hl => ?_)
      refine lv_iconst (v := nI 1) hx hb dL_answeringRows_13 (by decide) ?_
      exact r_i hx hb hrt9 hlk hS (Nat.le_of_ble_eq_true rfl) (Nat.le_of_ble_eq_true rfl) dL_answeringRows_14 (⟨⟨by rw [hc9], by rw [hc9]; decide⟩, ⟨_, hob.kept (hk9.2 _ hob.lt), fun z => by rw [hc9] at z; cases z⟩, tg, by rw [hs9]; exact hR.kp hk9, TX.rf, f7⟩)
  -- on
  obtain ⟨h1, h2, tg1, hR1, tx, f1⟩ := hP
  refine x_top (y := (((oAnsRows M x).2.1))) (h2) ?_
  have hob1 := hob.kept (f1.2 _ hob.lt (by rw [hot]; decide))
  have hot1 := (tx _ hob.lt).trans hot
  refine lv_i2l (v := (((oAnsRows M x).2.1)).toInt64) hx hb dL_answeringRows_7 rfl ?_
  refine x_last (i := 0) (x := (((oAnsRows M x).2.1)).toInt64) hx hb hK hS hob1 hAo (by omega) (by decide) dL_answeringRows_8 (fun H2 locs2 hob2 hz2 hq2 hS => ?_)
  have f2 : FR tg1 (fun t => t = 7) H1 H2 := ⟨by omega, fun q9 _ h8 => hq2 q9 (fun z => h8 (by rw [z]; exact hot1))⟩
  have hR2 := hR1.out f2 (Or.inl rfl)
  have f3 : FR tg (fun t => t ≠ 0 ∧ t ≠ 8) H H2 := (f1.wk (fun t z => ⟨z.1, z.2.2⟩)).tr tx (f2.wk (fun t z => by omega))
  refine lv_goto (tgt := 15) hx hb dL_answeringRows_9 (by decide) ?_
  refine lv_iconst (v := nI 0) hx hb dL_answeringRows_15 (by decide) ?_
  exact r_i hx hb hrt9 hlk hS (Nat.le_of_ble_eq_true rfl) (Nat.le_of_ble_eq_true rfl) dL_answeringRows_16 (⟨⟨by rw [h1], by rw [h1]; decide⟩, ⟨_, hob2, fun _ => if_pos rfl⟩, tg1, hR2, tx, f3⟩)
set_option maxHeartbeats 4000000 in
set_option maxRecDepth 100000 in
theorem c_L_changed (l : Launch) {D : va_G} {T : Nat → ClassId} {dE mi : Nat} (hst : l.stackTraces = false) {A : Nat → Prop} {H : Heap} {b0 bd : Nat} {tg : Nat → Nat} {M : mSt} (hR : RepT D T dE b0 A tg H M) (hI : Inv bd M) (x x2 : Int32) {ob : Nat} {f0 : Nat → Int64} (hob : jc (T 4) H ob 1 f0) (hot : tg ob = 7) (hAo : A ob) : vx_Met l yL_changed wsL_changed (rmL 10 6 89) (PcE D T dE mi A H [.ref b0, .int x, .int x2, .ref ob]) (QI A (PW D T dE b0 A tg H ob (oChanged M x x2))) (XX A (XN)) 6 89 A := by
  refine entryH (hh := [(0, 10, 13, 52)]) (cc := cL_changed) (maxL := 5) (ret := (some .int)) (by decide) rfl (Nat.le_of_ble_eq_true rfl) ?_
  intro p e s m args below meth c hx hb hrt9 hml hown hts hlk htb hnm hev hS ls hl
  have hown : s.vm.findClass RL = some m.cls := hown
  have hK := hev.1
  have hl : lv_has ls 5 [(0, .ref b0), (1, .int x), (2, .int x2), (3, .ref ob)] := hl
  obtain ⟨y, zq, zy, wo, hC, hQ, hY, hW, hwo⟩ := id hR
  have hX := hC.2.1
  have hrv : ∃ cell : Cell, H[b0]? = some cell ∧ cell.vm.isStatics = false ∧ s.vm.findClass "Archeloft" = some cell.cls := x_recv hK hX.1 rfl
  refine lv_aload_n hx hb dL_changed_0 rfl (lv_at hl 3 rfl) ?_
  refine lv_iconst (v := nI 0) hx hb dL_changed_1 (by decide) ?_
  refine lv_aload_n hx hb dL_changed_2 rfl (lv_at hl 0 rfl) ?_
  refine lv_iload_n hx hb dL_changed_3 rfl (lv_at hl 1 rfl) ?_
  refine lv_iload_n hx hb dL_changed_4 rfl (lv_at hl 2 rfl) ?_
  refine k_i (k_V (As := [.int x, .int x2]) (rest := [.int (nI 0), .ref ob]) ⟨hx, hb, hml, hown, hts⟩ hev hS (u_changed l hst hR hI x x2) (cwV 2 hts gL_changed_X6_changed rfl rfl rfl (by decide +kernel) ⟨Nat.le_of_ble_eq_true rfl, Nat.le_of_ble_eq_true rfl⟩) (x_recv hK hX.1 rfl) rfl hl.1 (Nat.le_of_ble_eq_true rfl) dL_changed_5 (Nat.le_of_ble_eq_true rfl) (Nat.le_of_ble_eq_true rfl)) hS (fun E9 ce9 qx Hx locsx hx9 hzx hS h7 h8 h9 => ?_) (fun rq1_ H1 locs1 hP hz1 hS => ?_)
  · obtain ⟨hm9, hk9⟩ := hx9
    obtain ⟨hE, hc9⟩ := mem1 hm9
    · subst hE
      have hs9 : (oChanged M x x2).2.2 = M := es_changed (by rw [hc9]; decide)
      have f7 : FR tg (fun t => t ≠ 0 ∧ t ≠ 8) H Hx := FR.kp hk9
      refine vx_catch (own := RL) (name := "java/lang/IndexOutOfBoundsException") (E := "java/lang/IndexOutOfBoundsException") hown (tableOf []) ⟨0, 10, 13, 52⟩ (tableOf []) (htb.trans rfl) PsR.nl (by decide) (by decide) (hts (.classLink RL 52 "java/lang/IndexOutOfBoundsException") (by decide +kernel)) (va_Nw.use rfl (hev.2.2.2.1 ("java/lang/IndexOutOfBoundsException", "java/lang/IndexOutOfBoundsException") (by decide +kernel))) h7 h8 h9 ?_
      refine lv_astore (lv' := [(4, .ref qx), (0, .ref b0), (1, .int x), (2, .int x2), (3, .ref ob)]) hx hb dL_changed_13 hl (by decide) rfl (fun ls hl => ?_)
      refine lv_iconst (v := nI 1) hx hb dL_changed_15 (by decide) ?_
      exact r_i hx hb hrt9 hlk hS (Nat.le_of_ble_eq_true rfl) (Nat.le_of_ble_eq_true rfl) dL_changed_16 (⟨⟨by rw [hc9], by rw [hc9]; decide⟩, ⟨_, hob.kept (hk9.2 _ hob.lt), fun z => by rw [hc9] at z; cases z⟩, tg, by rw [hs9]; exact hR.kp hk9, TX.rf, f7⟩)
  -- on
  obtain ⟨h1, h2, tg1, hR1, tx, f1⟩ := hP
  refine x_top (y := (((oChanged M x x2).2.1))) (h2) ?_
  have hob1 := hob.kept (f1.2 _ hob.lt (by rw [hot]; decide))
  have hot1 := (tx _ hob.lt).trans hot
  refine lv_i2l (v := (((oChanged M x x2).2.1)).toInt64) hx hb dL_changed_8 rfl ?_
  refine x_last (i := 0) (x := (((oChanged M x x2).2.1)).toInt64) hx hb hK hS hob1 hAo (by omega) (by decide) dL_changed_9 (fun H2 locs2 hob2 hz2 hq2 hS => ?_)
  have f2 : FR tg1 (fun t => t = 7) H1 H2 := ⟨by omega, fun q9 _ h8 => hq2 q9 (fun z => h8 (by rw [z]; exact hot1))⟩
  have hR2 := hR1.out f2 (Or.inl rfl)
  have f3 : FR tg (fun t => t ≠ 0 ∧ t ≠ 8) H H2 := (f1.wk (fun t z => ⟨z.1, z.2.2⟩)).tr tx (f2.wk (fun t z => by omega))
  refine lv_goto (tgt := 17) hx hb dL_changed_10 (by decide) ?_
  refine lv_iconst (v := nI 0) hx hb dL_changed_17 (by decide) ?_
  exact r_i hx hb hrt9 hlk hS (Nat.le_of_ble_eq_true rfl) (Nat.le_of_ble_eq_true rfl) dL_changed_18 (⟨⟨by rw [h1], by rw [h1]; decide⟩, ⟨_, hob2, fun _ => if_pos rfl⟩, tg1, hR2, tx, f3⟩)
set_option maxHeartbeats 4000000 in
set_option maxRecDepth 100000 in
theorem c_L_answer (l : Launch) {D : va_G} {T : Nat → ClassId} {dE mi : Nat} (hst : l.stackTraces = false) {A : Nat → Prop} {H : Heap} {b0 bd : Nat} {tg : Nat → Nat} {M : mSt} (hR : RepT D T dE b0 A tg H M) (hI : Inv bd M) (x x2 : Int32) {ob : Nat} {f0 : Nat → Int64} (hob : jc (T 4) H ob 1 f0) (hot : tg ob = 7) (hAo : A ob) : vx_Met l yL_answer wsL_answer (rmL 10 7 95) (PcE D T dE mi A H [.ref b0, .int x, .int x2, .ref ob]) (QI A (PW D T dE b0 A tg H ob (oAnswer M x x2))) (XX A (XN)) 7 95 A := by
  refine entryH (hh := [(0, 10, 13, 52)]) (cc := cL_answer) (maxL := 5) (ret := (some .int)) (by decide) rfl (Nat.le_of_ble_eq_true rfl) ?_
  intro p e s m args below meth c hx hb hrt9 hml hown hts hlk htb hnm hev hS ls hl
  have hown : s.vm.findClass RL = some m.cls := hown
  have hK := hev.1
  have hl : lv_has ls 5 [(0, .ref b0), (1, .int x), (2, .int x2), (3, .ref ob)] := hl
  obtain ⟨y, zq, zy, wo, hC, hQ, hY, hW, hwo⟩ := id hR
  have hX := hC.2.1
  have hrv : ∃ cell : Cell, H[b0]? = some cell ∧ cell.vm.isStatics = false ∧ s.vm.findClass "Archeloft" = some cell.cls := x_recv hK hX.1 rfl
  refine lv_aload_n hx hb dL_answer_0 rfl (lv_at hl 3 rfl) ?_
  refine lv_iconst (v := nI 0) hx hb dL_answer_1 (by decide) ?_
  refine lv_aload_n hx hb dL_answer_2 rfl (lv_at hl 0 rfl) ?_
  refine lv_iload_n hx hb dL_answer_3 rfl (lv_at hl 1 rfl) ?_
  refine lv_iload_n hx hb dL_answer_4 rfl (lv_at hl 2 rfl) ?_
  refine k_i (k_V (As := [.int x, .int x2]) (rest := [.int (nI 0), .ref ob]) ⟨hx, hb, hml, hown, hts⟩ hev hS (u_answer l hst hR hI x x2) (cwV 2 hts gL_answer_X6_answer rfl rfl rfl (by decide +kernel) ⟨Nat.le_of_ble_eq_true rfl, Nat.le_of_ble_eq_true rfl⟩) (x_recv hK hX.1 rfl) rfl hl.1 (Nat.le_of_ble_eq_true rfl) dL_answer_5 (Nat.le_of_ble_eq_true rfl) (Nat.le_of_ble_eq_true rfl)) hS (fun E9 ce9 qx Hx locsx hx9 hzx hS h7 h8 h9 => ?_) (fun rq1_ H1 locs1 hP hz1 hS => ?_)
  · obtain ⟨hm9, hk9⟩ := hx9
    obtain ⟨hE, hc9⟩ := mem1 hm9
    · subst hE
      have hs9 : (oAnswer M x x2).2.2 = M := es_answer (by rw [hc9]; decide)
      have f7 : FR tg (fun t => t ≠ 0 ∧ t ≠ 8) H Hx := FR.kp hk9
      refine vx_catch (own := RL) (name := "java/lang/IndexOutOfBoundsException") (E := "java/lang/IndexOutOfBoundsException") hown (tableOf []) ⟨0, 10, 13, 52⟩ (tableOf []) (htb.trans rfl) PsR.nl (by decide) (by decide) (hts (.classLink RL 52 "java/lang/IndexOutOfBoundsException") (by decide +kernel)) (va_Nw.use rfl (hev.2.2.2.1 ("java/lang/IndexOutOfBoundsException", "java/lang/IndexOutOfBoundsException") (by decide +kernel))) h7 h8 h9 ?_
      refine lv_astore (lv' := [(4, .ref qx), (0, .ref b0), (1, .int x), (2, .int x2), (3, .ref ob)]) hx hb dL_answer_13 hl (by decide) rfl (fun ls hl => ?_)
      refine lv_iconst (v := nI 1) hx hb dL_answer_15 (by decide) ?_
      exact r_i hx hb hrt9 hlk hS (Nat.le_of_ble_eq_true rfl) (Nat.le_of_ble_eq_true rfl) dL_answer_16 (⟨⟨by rw [hc9], by rw [hc9]; decide⟩, ⟨_, hob.kept (hk9.2 _ hob.lt), fun z => by rw [hc9] at z; cases z⟩, tg, by rw [hs9]; exact hR.kp hk9, TX.rf, f7⟩)
  -- on
  obtain ⟨h1, h2, tg1, hR1, tx, f1⟩ := hP
  refine x_top (y := (((oAnswer M x x2).2.1))) (h2) ?_
  have hob1 := hob.kept (f1.2 _ hob.lt (by rw [hot]; decide))
  have hot1 := (tx _ hob.lt).trans hot
  refine lv_i2l (v := (((oAnswer M x x2).2.1)).toInt64) hx hb dL_answer_8 rfl ?_
  refine x_last (i := 0) (x := (((oAnswer M x x2).2.1)).toInt64) hx hb hK hS hob1 hAo (by omega) (by decide) dL_answer_9 (fun H2 locs2 hob2 hz2 hq2 hS => ?_)
  have f2 : FR tg1 (fun t => t = 7) H1 H2 := ⟨by omega, fun q9 _ h8 => hq2 q9 (fun z => h8 (by rw [z]; exact hot1))⟩
  have hR2 := hR1.out f2 (Or.inl rfl)
  have f3 : FR tg (fun t => t ≠ 0 ∧ t ≠ 8) H H2 := (f1.wk (fun t z => ⟨z.1, z.2.2⟩)).tr tx (f2.wk (fun t z => by omega))
  refine lv_goto (tgt := 17) hx hb dL_answer_10 (by decide) ?_
  refine lv_iconst (v := nI 0) hx hb dL_answer_17 (by decide) ?_
  exact r_i hx hb hrt9 hlk hS (Nat.le_of_ble_eq_true rfl) (Nat.le_of_ble_eq_true rfl) dL_answer_18 (⟨⟨by rw [h1], by rw [h1]; decide⟩, ⟨_, hob2, fun _ => if_pos rfl⟩, tg1, hR2, tx, f3⟩)
set_option maxHeartbeats 4000000 in
set_option maxRecDepth 100000 in
theorem c_L_stage (l : Launch) {D : va_G} {T : Nat → ClassId} {dE mi : Nat} (hst : l.stackTraces = false) {A : Nat → Prop} {H : Heap} {b0 bd : Nat} {tg : Nat → Nat} {M : mSt} (hR : RepT D T dE b0 A tg H M) (hI : Inv bd M) (x : Int32) {ob : Nat} {f0 : Nat → Int64} (hob : jc (T 4) H ob 1 f0) (hot : tg ob = 7) (hAo : A ob) : vx_Met l yL_stage wsL_stage (rmL 7 1 6) (PcE D T dE mi A H [.ref b0, .int x, .ref ob]) (QI A (PW D T dE b0 A tg H ob (oStage M x))) (XX A (XN)) 1 6 A := by
  refine entryH (hh := [(0, 9, 12, 52)]) (cc := cL_stage) (maxL := 4) (ret := (some .int)) (by decide) rfl (Nat.le_of_ble_eq_true rfl) ?_
  intro p e s m args below meth c hx hb hrt9 hml hown hts hlk htb hnm hev hS ls hl
  have hown : s.vm.findClass RL = some m.cls := hown
  have hK := hev.1
  have hl : lv_has ls 4 [(0, .ref b0), (1, .int x), (2, .ref ob)] := hl
  obtain ⟨y, zq, zy, wo, hC, hQ, hY, hW, hwo⟩ := id hR
  have hX := hC.2.1
  have hrv : ∃ cell : Cell, H[b0]? = some cell ∧ cell.vm.isStatics = false ∧ s.vm.findClass "Archeloft" = some cell.cls := x_recv hK hX.1 rfl
  refine lv_aload_n hx hb dL_stage_0 rfl (lv_at hl 2 rfl) ?_
  refine lv_iconst (v := nI 0) hx hb dL_stage_1 (by decide) ?_
  refine lv_aload_n hx hb dL_stage_2 rfl (lv_at hl 0 rfl) ?_
  refine lv_iload_n hx hb dL_stage_3 rfl (lv_at hl 1 rfl) ?_
  refine k_i (k_V (As := [.int x]) (rest := [.int (nI 0), .ref ob]) ⟨hx, hb, hml, hown, hts⟩ hev hS (u_stage l hst hR hI x) (cwV 1 hts gL_stage_X6_stage rfl rfl rfl (by decide +kernel) ⟨Nat.le_of_ble_eq_true rfl, Nat.le_of_ble_eq_true rfl⟩) (x_recv hK hX.1 rfl) rfl hl.1 (Nat.le_of_ble_eq_true rfl) dL_stage_4 (Nat.le_of_ble_eq_true rfl) (Nat.le_of_ble_eq_true rfl)) hS (fun E9 ce9 qx Hx locsx hx9 hzx hS h7 h8 h9 => ?_) (fun rq1_ H1 locs1 hP hz1 hS => ?_)
  · obtain ⟨hm9, hk9⟩ := hx9
    obtain ⟨hE, hc9⟩ := mem1 hm9
    · subst hE
      have hs9 : (oStage M x).2.2 = M := es_stage (by rw [hc9]; decide)
      have f7 : FR tg (fun t => t ≠ 0 ∧ t ≠ 8) H Hx := FR.kp hk9
      refine vx_catch (own := RL) (name := "java/lang/IndexOutOfBoundsException") (E := "java/lang/IndexOutOfBoundsException") hown (tableOf []) ⟨0, 9, 12, 52⟩ (tableOf []) (htb.trans rfl) PsR.nl (by decide) (by decide) (hts (.classLink RL 52 "java/lang/IndexOutOfBoundsException") (by decide +kernel)) (va_Nw.use rfl (hev.2.2.2.1 ("java/lang/IndexOutOfBoundsException", "java/lang/IndexOutOfBoundsException") (by decide +kernel))) h7 h8 h9 ?_
      refine lv_astore_n (lv' := [(3, .ref qx), (0, .ref b0), (1, .int x), (2, .ref ob)]) hx hb dL_stage_12 rfl hl (by decide) rfl (fun ls hl => ?_)
      refine lv_iconst (v := nI 1) hx hb dL_stage_13 (by decide) ?_
      exact r_i hx hb hrt9 hlk hS (Nat.le_of_ble_eq_true rfl) (Nat.le_of_ble_eq_true rfl) dL_stage_14 (⟨⟨by rw [hc9], by rw [hc9]; decide⟩, ⟨_, hob.kept (hk9.2 _ hob.lt), fun z => by rw [hc9] at z; cases z⟩, tg, by rw [hs9]; exact hR.kp hk9, TX.rf, f7⟩)
  -- on
  obtain ⟨h1, h2, tg1, hR1, tx, f1⟩ := hP
  refine x_top (y := (((oStage M x).2.1))) (h2) ?_
  have hob1 := hob.kept (f1.2 _ hob.lt (by rw [hot]; decide))
  have hot1 := (tx _ hob.lt).trans hot
  refine lv_i2l (v := (((oStage M x).2.1)).toInt64) hx hb dL_stage_7 rfl ?_
  refine x_last (i := 0) (x := (((oStage M x).2.1)).toInt64) hx hb hK hS hob1 hAo (by omega) (by decide) dL_stage_8 (fun H2 locs2 hob2 hz2 hq2 hS => ?_)
  have f2 : FR tg1 (fun t => t = 7) H1 H2 := ⟨by omega, fun q9 _ h8 => hq2 q9 (fun z => h8 (by rw [z]; exact hot1))⟩
  have hR2 := hR1.out f2 (Or.inl rfl)
  have f3 : FR tg (fun t => t ≠ 0 ∧ t ≠ 8) H H2 := (f1.wk (fun t z => ⟨z.1, z.2.2⟩)).tr tx (f2.wk (fun t z => by omega))
  refine lv_goto (tgt := 15) hx hb dL_stage_9 (by decide) ?_
  refine lv_iconst (v := nI 0) hx hb dL_stage_15 (by decide) ?_
  exact r_i hx hb hrt9 hlk hS (Nat.le_of_ble_eq_true rfl) (Nat.le_of_ble_eq_true rfl) dL_stage_16 (⟨⟨by rw [h1], by rw [h1]; decide⟩, ⟨_, hob2, fun _ => if_pos rfl⟩, tg1, hR2, tx, f3⟩)
set_option maxHeartbeats 4000000 in
set_option maxRecDepth 100000 in
theorem c_L_walk (l : Launch) {D : va_G} {T : Nat → ClassId} {dE mi : Nat} (hst : l.stackTraces = false) {A : Nat → Prop} {H : Heap} {b0 bd : Nat} {tg : Nat → Nat} {M : mSt} (hR : RepT D T dE b0 A tg H M) (hI : Inv bd M) (x : Int32) {ob : Nat} {f0 : Nat → Int64} (hob : jc (T 4) H ob 1 f0) (hot : tg ob = 7) (hAo : A ob) : vx_Met l yL_walk wsL_walk (rmL 10 9 101) (PcE D T dE mi A H [.ref b0, .int x, .ref ob]) (QI A (PW D T dE b0 A tg H ob (oWalk M x))) (XX A (XN)) 9 101 A := by
  refine entryH (hh := [(0, 9, 12, 52), (0, 9, 15, 13)]) (cc := cL_walk) (maxL := 4) (ret := (some .int)) (by decide) rfl (Nat.le_of_ble_eq_true rfl) ?_
  intro p e s m args below meth c hx hb hrt9 hml hown hts hlk htb hnm hev hS ls hl
  have hown : s.vm.findClass RL = some m.cls := hown
  have hK := hev.1
  have hl : lv_has ls 4 [(0, .ref b0), (1, .int x), (2, .ref ob)] := hl
  obtain ⟨y, zq, zy, wo, hC, hQ, hY, hW, hwo⟩ := id hR
  have hX := hC.2.1
  have hrv : ∃ cell : Cell, H[b0]? = some cell ∧ cell.vm.isStatics = false ∧ s.vm.findClass "Archeloft" = some cell.cls := x_recv hK hX.1 rfl
  refine lv_aload_n hx hb dL_walk_0 rfl (lv_at hl 2 rfl) ?_
  refine lv_iconst (v := nI 0) hx hb dL_walk_1 (by decide) ?_
  refine lv_aload_n hx hb dL_walk_2 rfl (lv_at hl 0 rfl) ?_
  refine lv_iload_n hx hb dL_walk_3 rfl (lv_at hl 1 rfl) ?_
  refine k_i (k_V (As := [.int x]) (rest := [.int (nI 0), .ref ob]) ⟨hx, hb, hml, hown, hts⟩ hev hS (u_walk l hst hR hI x) (cwV 1 hts gL_walk_X6_walk rfl rfl rfl (by decide +kernel) ⟨Nat.le_of_ble_eq_true rfl, Nat.le_of_ble_eq_true rfl⟩) (x_recv hK hX.1 rfl) rfl hl.1 (Nat.le_of_ble_eq_true rfl) dL_walk_4 (Nat.le_of_ble_eq_true rfl) (Nat.le_of_ble_eq_true rfl)) hS (fun E9 ce9 qx Hx locsx hx9 hzx hS h7 h8 h9 => ?_) (fun rq1_ H1 locs1 hP hz1 hS => ?_)
  · obtain ⟨hm9, hk9⟩ := hx9
    rcases mem2 hm9 with ⟨hE, hc9⟩ | ⟨hE, hc9⟩
    · subst hE
      have hs9 : (oWalk M x).2.2 = M := es_walk (by rw [hc9]; decide)
      have f7 : FR tg (fun t => t ≠ 0 ∧ t ≠ 8) H Hx := FR.kp hk9
      refine vx_catch (own := RL) (name := "java/lang/IndexOutOfBoundsException") (E := "java/lang/IndexOutOfBoundsException") hown (tableOf []) ⟨0, 9, 12, 52⟩ (tableOf [(0, 9, 15, 13)]) (htb.trans rfl) PsR.nl (by decide) (by decide) (hts (.classLink RL 52 "java/lang/IndexOutOfBoundsException") (by decide +kernel)) (va_Nw.use rfl (hev.2.2.2.1 ("java/lang/IndexOutOfBoundsException", "java/lang/IndexOutOfBoundsException") (by decide +kernel))) h7 h8 h9 ?_
      refine lv_astore_n (lv' := [(3, .ref qx), (0, .ref b0), (1, .int x), (2, .ref ob)]) hx hb dL_walk_12 rfl hl (by decide) rfl (fun ls hl => ?_)
      refine lv_iconst (v := nI 1) hx hb dL_walk_13 (by decide) ?_
      exact r_i hx hb hrt9 hlk hS (Nat.le_of_ble_eq_true rfl) (Nat.le_of_ble_eq_true rfl) dL_walk_14 (⟨⟨by rw [hc9], by rw [hc9]; decide⟩, ⟨_, hob.kept (hk9.2 _ hob.lt), fun z => by rw [hc9] at z; cases z⟩, tg, by rw [hs9]; exact hR.kp hk9, TX.rf, f7⟩)
    · subst hE
      have hs9 : (oWalk M x).2.2 = M := es_walk (by rw [hc9]; decide)
      have f7 : FR tg (fun t => t ≠ 0 ∧ t ≠ 8) H Hx := FR.kp hk9
      refine vx_catch (own := RL) (name := "java/lang/IllegalStateException") (E := "java/lang/IllegalStateException") hown (tableOf [(0, 9, 12, 52)]) ⟨0, 9, 15, 13⟩ (tableOf []) (htb.trans rfl) (PsR.cs (PsR.on (nm := "java/lang/IndexOutOfBoundsException") (by decide) (hts (.classLink RL 52 "java/lang/IndexOutOfBoundsException") (by decide +kernel)) (hev.2.2.2.2.1.1.1 ("java/lang/IllegalStateException", "java/lang/IndexOutOfBoundsException") (by decide +kernel))) PsR.nl) (by decide) (by decide) (hts (.classLink RL 13 "java/lang/IllegalStateException") (by decide +kernel)) (va_Nw.use rfl (hev.2.2.2.1 ("java/lang/IllegalStateException", "java/lang/IllegalStateException") (by decide +kernel))) h7 h8 h9 ?_
      refine lv_astore_n (lv' := [(3, .ref qx), (0, .ref b0), (1, .int x), (2, .ref ob)]) hx hb dL_walk_15 rfl hl (by decide) rfl (fun ls hl => ?_)
      refine lv_iconst (v := nI 2) hx hb dL_walk_16 (by decide) ?_
      exact r_i hx hb hrt9 hlk hS (Nat.le_of_ble_eq_true rfl) (Nat.le_of_ble_eq_true rfl) dL_walk_17 (⟨⟨by rw [hc9], by rw [hc9]; decide⟩, ⟨_, hob.kept (hk9.2 _ hob.lt), fun z => by rw [hc9] at z; cases z⟩, tg, by rw [hs9]; exact hR.kp hk9, TX.rf, f7⟩)
  -- on
  obtain ⟨h1, h2, tg1, hR1, tx, f1⟩ := hP
  refine x_top (y := (((oWalk M x).2.1))) (h2) ?_
  have hob1 := hob.kept (f1.2 _ hob.lt (by rw [hot]; decide))
  have hot1 := (tx _ hob.lt).trans hot
  refine lv_i2l (v := (((oWalk M x).2.1)).toInt64) hx hb dL_walk_7 rfl ?_
  refine x_last (i := 0) (x := (((oWalk M x).2.1)).toInt64) hx hb hK hS hob1 hAo (by omega) (by decide) dL_walk_8 (fun H2 locs2 hob2 hz2 hq2 hS => ?_)
  have f2 : FR tg1 (fun t => t = 7) H1 H2 := ⟨by omega, fun q9 _ h8 => hq2 q9 (fun z => h8 (by rw [z]; exact hot1))⟩
  have hR2 := hR1.out f2 (Or.inl rfl)
  have f3 : FR tg (fun t => t ≠ 0 ∧ t ≠ 8) H H2 := (f1.wk (fun t z => ⟨z.1, z.2.2⟩)).tr tx (f2.wk (fun t z => by omega))
  refine lv_goto (tgt := 18) hx hb dL_walk_9 (by decide) ?_
  refine lv_iconst (v := nI 0) hx hb dL_walk_18 (by decide) ?_
  exact r_i hx hb hrt9 hlk hS (Nat.le_of_ble_eq_true rfl) (Nat.le_of_ble_eq_true rfl) dL_walk_19 (⟨⟨by rw [h1], by rw [h1]; decide⟩, ⟨_, hob2, fun _ => if_pos rfl⟩, tg1, hR2, tx, f3⟩)
set_option maxHeartbeats 4000000 in
set_option maxRecDepth 100000 in
theorem c_L_next (l : Launch) {D : va_G} {T : Nat → ClassId} {dE mi : Nat} (hst : l.stackTraces = false) {A : Nat → Prop} {H : Heap} {b0 bd : Nat} {tg : Nat → Nat} {M : mSt} (hR : RepT D T dE b0 A tg H M) (hI : Inv bd M) {ob : Nat} {f0 : Nat → Int64} (hob : jc (T 4) H ob 1 f0) (hot : tg ob = 7) (hAo : A ob) : vx_Met l yL_next wsL_next (rmL 8 1 6) (PcE D T dE mi A H [.ref b0, .ref ob]) (QI A (PW D T dE b0 A tg H ob (oNext M))) (XX A (XN)) 1 6 A := by
  refine entryH (hh := [(0, 8, 11, 13)]) (cc := cL_next) (maxL := 3) (ret := (some .int)) (by decide) rfl (Nat.le_of_ble_eq_true rfl) ?_
  intro p e s m args below meth c hx hb hrt9 hml hown hts hlk htb hnm hev hS ls hl
  have hown : s.vm.findClass RL = some m.cls := hown
  have hK := hev.1
  have hl : lv_has ls 3 [(0, .ref b0), (1, .ref ob)] := hl
  obtain ⟨y, zq, zy, wo, hC, hQ, hY, hW, hwo⟩ := id hR
  have hX := hC.2.1
  have hrv : ∃ cell : Cell, H[b0]? = some cell ∧ cell.vm.isStatics = false ∧ s.vm.findClass "Archeloft" = some cell.cls := x_recv hK hX.1 rfl
  refine lv_aload_n hx hb dL_next_0 rfl (lv_at hl 1 rfl) ?_
  refine lv_iconst (v := nI 0) hx hb dL_next_1 (by decide) ?_
  refine lv_aload_n hx hb dL_next_2 rfl (lv_at hl 0 rfl) ?_
  refine k_i (k_V (As := []) (rest := [.int (nI 0), .ref ob]) ⟨hx, hb, hml, hown, hts⟩ hev hS (u_next l hst hR hI) (cwV 0 hts gL_next_X6_next rfl rfl rfl (by decide +kernel) ⟨Nat.le_of_ble_eq_true rfl, Nat.le_of_ble_eq_true rfl⟩) (x_recv hK hX.1 rfl) rfl hl.1 (Nat.le_of_ble_eq_true rfl) dL_next_3 (Nat.le_of_ble_eq_true rfl) (Nat.le_of_ble_eq_true rfl)) hS (fun E9 ce9 qx Hx locsx hx9 hzx hS h7 h8 h9 => ?_) (fun rq1_ H1 locs1 hP hz1 hS => ?_)
  · obtain ⟨hm9, hk9⟩ := hx9
    obtain ⟨hE, hc9⟩ := mem1 hm9
    · subst hE
      have hs9 : (oNext M).2.2 = M := es_next (by rw [hc9]; decide)
      have f7 : FR tg (fun t => t ≠ 0 ∧ t ≠ 8) H Hx := FR.kp hk9
      refine vx_catch (own := RL) (name := "java/lang/IllegalStateException") (E := "java/lang/IllegalStateException") hown (tableOf []) ⟨0, 8, 11, 13⟩ (tableOf []) (htb.trans rfl) PsR.nl (by decide) (by decide) (hts (.classLink RL 13 "java/lang/IllegalStateException") (by decide +kernel)) (va_Nw.use rfl (hev.2.2.2.1 ("java/lang/IllegalStateException", "java/lang/IllegalStateException") (by decide +kernel))) h7 h8 h9 ?_
      refine lv_astore_n (lv' := [(2, .ref qx), (0, .ref b0), (1, .ref ob)]) hx hb dL_next_11 rfl hl (by decide) rfl (fun ls hl => ?_)
      refine lv_iconst (v := nI 1) hx hb dL_next_12 (by decide) ?_
      exact r_i hx hb hrt9 hlk hS (Nat.le_of_ble_eq_true rfl) (Nat.le_of_ble_eq_true rfl) dL_next_13 (⟨⟨by rw [hc9], by rw [hc9]; decide⟩, ⟨_, hob.kept (hk9.2 _ hob.lt), fun z => by rw [hc9] at z; cases z⟩, tg, by rw [hs9]; exact hR.kp hk9, TX.rf, f7⟩)
  -- on
  obtain ⟨h1, h2, tg1, hR1, tx, f1⟩ := hP
  refine x_top (y := (((oNext M).2.1))) (h2) ?_
  have hob1 := hob.kept (f1.2 _ hob.lt (by rw [hot]; decide))
  have hot1 := (tx _ hob.lt).trans hot
  refine lv_i2l (v := (((oNext M).2.1)).toInt64) hx hb dL_next_6 rfl ?_
  refine x_last (i := 0) (x := (((oNext M).2.1)).toInt64) hx hb hK hS hob1 hAo (by omega) (by decide) dL_next_7 (fun H2 locs2 hob2 hz2 hq2 hS => ?_)
  have f2 : FR tg1 (fun t => t = 7) H1 H2 := ⟨by omega, fun q9 _ h8 => hq2 q9 (fun z => h8 (by rw [z]; exact hot1))⟩
  have hR2 := hR1.out f2 (Or.inl rfl)
  have f3 : FR tg (fun t => t ≠ 0 ∧ t ≠ 8) H H2 := (f1.wk (fun t z => ⟨z.1, z.2.2⟩)).tr tx (f2.wk (fun t z => by omega))
  refine lv_goto (tgt := 14) hx hb dL_next_8 (by decide) ?_
  refine lv_iconst (v := nI 0) hx hb dL_next_14 (by decide) ?_
  exact r_i hx hb hrt9 hlk hS (Nat.le_of_ble_eq_true rfl) (Nat.le_of_ble_eq_true rfl) dL_next_15 (⟨⟨by rw [h1], by rw [h1]; decide⟩, ⟨_, hob2, fun _ => if_pos rfl⟩, tg1, hR2, tx, f3⟩)
set_option maxHeartbeats 4000000 in
set_option maxRecDepth 100000 in
theorem c_L_defer (l : Launch) {D : va_G} {T : Nat → ClassId} {dE mi : Nat} (hst : l.stackTraces = false) {A : Nat → Prop} {H : Heap} {b0 bd : Nat} {tg : Nat → Nat} {M : mSt} (hR : RepT D T dE b0 A tg H M) (hI : Inv bd M) (x1 x2 x3 x4 : Int32) {ob : Nat} {f0 : Nat → Int64} (hob : jc (T 4) H ob 1 f0) (hot : tg ob = 7) (hAo : A ob) : vx_Met l yL_defer wsL_defer (rmL 9 3 83) (PcE D T dE mi A H [.ref b0, .int x1, .int x2, .int x3, .int x4, .ref ob]) (QI A (PW D T dE b0 A tg H ob (oDefer M x1 x2 x3 x4))) (XX A (XN)) 3 83 A := by
  refine entryH (hh := [(0, 14, 17, 25), (0, 14, 21, 13)]) (cc := cL_defer) (maxL := 7) (ret := (some .int)) (by decide) rfl (Nat.le_of_ble_eq_true rfl) ?_
  intro p e s m args below meth c hx hb hrt9 hml hown hts hlk htb hnm hev hS ls hl
  have hown : s.vm.findClass RL = some m.cls := hown
  have hK := hev.1
  have hl : lv_has ls 7 [(0, .ref b0), (1, .int x1), (2, .int x2), (3, .int x3), (4, .int x4), (5, .ref ob)] := hl
  obtain ⟨y, zq, zy, wo, hC, hQ, hY, hW, hwo⟩ := id hR
  have hX := hC.2.1
  have hrv : ∃ cell : Cell, H[b0]? = some cell ∧ cell.vm.isStatics = false ∧ s.vm.findClass "Archeloft" = some cell.cls := x_recv hK hX.1 rfl
  refine lv_aload hx hb dL_defer_0 (lv_at hl 5 rfl) ?_
  refine lv_iconst (v := nI 0) hx hb dL_defer_2 (by decide) ?_
  refine lv_aload_n hx hb dL_defer_3 rfl (lv_at hl 0 rfl) ?_
  refine lv_iload_n hx hb dL_defer_4 rfl (lv_at hl 1 rfl) ?_
  refine lv_iload_n hx hb dL_defer_5 rfl (lv_at hl 2 rfl) ?_
  refine lv_iload_n hx hb dL_defer_6 rfl (lv_at hl 3 rfl) ?_
  refine lv_iload hx hb dL_defer_7 (lv_at hl 4 rfl) ?_
  refine k_i (k_V (As := [.int x1, .int x2, .int x3, .int x4]) (rest := [.int (nI 0), .ref ob]) ⟨hx, hb, hml, hown, hts⟩ hev hS (u_defer l hst hR hI x1 x2 x3 x4) (cwV 4 hts gL_defer_X6_defer rfl rfl rfl (by decide +kernel) ⟨Nat.le_of_ble_eq_true rfl, Nat.le_of_ble_eq_true rfl⟩) (x_recv hK hX.1 rfl) rfl hl.1 (Nat.le_of_ble_eq_true rfl) dL_defer_9 (Nat.le_of_ble_eq_true rfl) (Nat.le_of_ble_eq_true rfl)) hS (fun E9 ce9 qx Hx locsx hx9 hzx hS h7 h8 h9 => ?_) (fun rq1_ H1 locs1 hP hz1 hS => ?_)
  · obtain ⟨hm9, hk9⟩ := hx9
    rcases mem2 hm9 with ⟨hE, hc9⟩ | ⟨hE, hc9⟩
    · subst hE
      have hs9 : (oDefer M x1 x2 x3 x4).2.2 = M := es_defer (by rw [hc9]; decide)
      have f7 : FR tg (fun t => t ≠ 0 ∧ t ≠ 8) H Hx := FR.kp hk9
      refine vx_catch (own := RL) (name := "java/lang/IllegalArgumentException") (E := "java/lang/IllegalArgumentException") hown (tableOf []) ⟨0, 14, 17, 25⟩ (tableOf [(0, 14, 21, 13)]) (htb.trans rfl) PsR.nl (by decide) (by decide) (hts (.classLink RL 25 "java/lang/IllegalArgumentException") (by decide +kernel)) (va_Nw.use rfl (hev.2.2.2.1 ("java/lang/IllegalArgumentException", "java/lang/IllegalArgumentException") (by decide +kernel))) h7 h8 h9 ?_
      refine lv_astore (lv' := [(6, .ref qx), (0, .ref b0), (1, .int x1), (2, .int x2), (3, .int x3), (4, .int x4), (5, .ref ob)]) hx hb dL_defer_17 hl (by decide) rfl (fun ls hl => ?_)
      refine lv_iconst (v := nI 1) hx hb dL_defer_19 (by decide) ?_
      exact r_i hx hb hrt9 hlk hS (Nat.le_of_ble_eq_true rfl) (Nat.le_of_ble_eq_true rfl) dL_defer_20 (⟨⟨by rw [hc9], by rw [hc9]; decide⟩, ⟨_, hob.kept (hk9.2 _ hob.lt), fun z => by rw [hc9] at z; cases z⟩, tg, by rw [hs9]; exact hR.kp hk9, TX.rf, f7⟩)
    · subst hE
      have hs9 : (oDefer M x1 x2 x3 x4).2.2 = M := es_defer (by rw [hc9]; decide)
      have f7 : FR tg (fun t => t ≠ 0 ∧ t ≠ 8) H Hx := FR.kp hk9
      refine vx_catch (own := RL) (name := "java/lang/IllegalStateException") (E := "java/lang/IllegalStateException") hown (tableOf [(0, 14, 17, 25)]) ⟨0, 14, 21, 13⟩ (tableOf []) (htb.trans rfl) (PsR.cs (PsR.on (nm := "java/lang/IllegalArgumentException") (by decide) (hts (.classLink RL 25 "java/lang/IllegalArgumentException") (by decide +kernel)) (hev.2.2.2.2.1.1.1 ("java/lang/IllegalStateException", "java/lang/IllegalArgumentException") (by decide +kernel))) PsR.nl) (by decide) (by decide) (hts (.classLink RL 13 "java/lang/IllegalStateException") (by decide +kernel)) (va_Nw.use rfl (hev.2.2.2.1 ("java/lang/IllegalStateException", "java/lang/IllegalStateException") (by decide +kernel))) h7 h8 h9 ?_
      refine lv_astore (lv' := [(6, .ref qx), (0, .ref b0), (1, .int x1), (2, .int x2), (3, .int x3), (4, .int x4), (5, .ref ob)]) hx hb dL_defer_21 hl (by decide) rfl (fun ls hl => ?_)
      refine lv_iconst (v := nI 2) hx hb dL_defer_23 (by decide) ?_
      exact r_i hx hb hrt9 hlk hS (Nat.le_of_ble_eq_true rfl) (Nat.le_of_ble_eq_true rfl) dL_defer_24 (⟨⟨by rw [hc9], by rw [hc9]; decide⟩, ⟨_, hob.kept (hk9.2 _ hob.lt), fun z => by rw [hc9] at z; cases z⟩, tg, by rw [hs9]; exact hR.kp hk9, TX.rf, f7⟩)
  -- on
  obtain ⟨h1, h2, tg1, hR1, tx, f1⟩ := hP
  refine x_top (y := (((oDefer M x1 x2 x3 x4).2.1))) (h2) ?_
  have hob1 := hob.kept (f1.2 _ hob.lt (by rw [hot]; decide))
  have hot1 := (tx _ hob.lt).trans hot
  refine lv_i2l (v := (((oDefer M x1 x2 x3 x4).2.1)).toInt64) hx hb dL_defer_12 rfl ?_
  refine x_last (i := 0) (x := (((oDefer M x1 x2 x3 x4).2.1)).toInt64) hx hb hK hS hob1 hAo (by omega) (by decide) dL_defer_13 (fun H2 locs2 hob2 hz2 hq2 hS => ?_)
  have f2 : FR tg1 (fun t => t = 7) H1 H2 := ⟨by omega, fun q9 _ h8 => hq2 q9 (fun z => h8 (by rw [z]; exact hot1))⟩
  have hR2 := hR1.out f2 (Or.inl rfl)
  have f3 : FR tg (fun t => t ≠ 0 ∧ t ≠ 8) H H2 := (f1.wk (fun t z => ⟨z.1, z.2.2⟩)).tr tx (f2.wk (fun t z => by omega))
  refine lv_goto (tgt := 25) hx hb dL_defer_14 (by decide) ?_
  refine lv_iconst (v := nI 0) hx hb dL_defer_25 (by decide) ?_
  exact r_i hx hb hrt9 hlk hS (Nat.le_of_ble_eq_true rfl) (Nat.le_of_ble_eq_true rfl) dL_defer_26 (⟨⟨by rw [h1], by rw [h1]; decide⟩, ⟨_, hob2, fun _ => if_pos rfl⟩, tg1, hR2, tx, f3⟩)
set_option maxHeartbeats 4000000 in
set_option maxRecDepth 100000 in
theorem c_L_finish (l : Launch) {D : va_G} {T : Nat → ClassId} {dE mi : Nat} (hst : l.stackTraces = false) {A : Nat → Prop} {H : Heap} {b0 bd : Nat} {tg : Nat → Nat} {M : mSt} (hR : RepT D T dE b0 A tg H M) (hI : Inv bd M) {ob : Nat} {f0 : Nat → Int64} (hob : jc (T 4) H ob 1 f0) (hot : tg ob = 7) (hAo : A ob) (h8 : bd + 800 ≤ 900000) : vx_Met l yL_finish wsL_finish (rmL 14 281 5166) (PcE D T dE mi A H [.ref b0, .ref ob]) (QI A (PW D T dE b0 A tg H ob (oFinish M))) (XX A (XN)) 281 5166 A := by
  refine entryH (hh := [(0, 8, 11, 13)]) (cc := cL_finish) (maxL := 3) (ret := (some .int)) (by decide) rfl (Nat.le_of_ble_eq_true rfl) ?_
  intro p e s m args below meth c hx hb hrt9 hml hown hts hlk htb hnm hev hS ls hl
  have hown : s.vm.findClass RL = some m.cls := hown
  have hK := hev.1
  have hl : lv_has ls 3 [(0, .ref b0), (1, .ref ob)] := hl
  obtain ⟨y, zq, zy, wo, hC, hQ, hY, hW, hwo⟩ := id hR
  have hX := hC.2.1
  have hrv : ∃ cell : Cell, H[b0]? = some cell ∧ cell.vm.isStatics = false ∧ s.vm.findClass "Archeloft" = some cell.cls := x_recv hK hX.1 rfl
  refine lv_aload_n hx hb dL_finish_0 rfl (lv_at hl 1 rfl) ?_
  refine lv_iconst (v := nI 0) hx hb dL_finish_1 (by decide) ?_
  refine lv_aload_n hx hb dL_finish_2 rfl (lv_at hl 0 rfl) ?_
  refine k_i (k_V (As := []) (rest := [.int (nI 0), .ref ob]) ⟨hx, hb, hml, hown, hts⟩ hev hS (u_finish l hst hR hI h8) (cwV 0 hts gL_finish_X6_finish rfl rfl rfl (by decide +kernel) ⟨Nat.le_of_ble_eq_true rfl, Nat.le_of_ble_eq_true rfl⟩) (x_recv hK hX.1 rfl) rfl hl.1 (Nat.le_of_ble_eq_true rfl) dL_finish_3 (Nat.le_of_ble_eq_true rfl) (Nat.le_of_ble_eq_true rfl)) hS (fun E9 ce9 qx Hx locsx hx9 hzx hS h7 h8 h9 => ?_) (fun rq1_ H1 locs1 hP hz1 hS => ?_)
  · obtain ⟨hm9, hk9⟩ := hx9
    obtain ⟨hE, hc9⟩ := mem1 hm9
    · subst hE
      have hs9 : (oFinish M).2.2 = M := es_finish (by rw [hc9]; decide)
      have f7 : FR tg (fun t => t ≠ 0 ∧ t ≠ 8) H Hx := FR.kp hk9
      refine vx_catch (own := RL) (name := "java/lang/IllegalStateException") (E := "java/lang/IllegalStateException") hown (tableOf []) ⟨0, 8, 11, 13⟩ (tableOf []) (htb.trans rfl) PsR.nl (by decide) (by decide) (hts (.classLink RL 13 "java/lang/IllegalStateException") (by decide +kernel)) (va_Nw.use rfl (hev.2.2.2.1 ("java/lang/IllegalStateException", "java/lang/IllegalStateException") (by decide +kernel))) h7 h8 h9 ?_
      refine lv_astore_n (lv' := [(2, .ref qx), (0, .ref b0), (1, .ref ob)]) hx hb dL_finish_11 rfl hl (by decide) rfl (fun ls hl => ?_)
      refine lv_iconst (v := nI 1) hx hb dL_finish_12 (by decide) ?_
      exact r_i hx hb hrt9 hlk hS (Nat.le_of_ble_eq_true rfl) (Nat.le_of_ble_eq_true rfl) dL_finish_13 (⟨⟨by rw [hc9], by rw [hc9]; decide⟩, ⟨_, hob.kept (hk9.2 _ hob.lt), fun z => by rw [hc9] at z; cases z⟩, tg, by rw [hs9]; exact hR.kp hk9, TX.rf, f7⟩)
  -- on
  obtain ⟨h1, h2, tg1, hR1, tx, f1⟩ := hP
  refine x_top (y := (((oFinish M).2.1))) (h2) ?_
  have hob1 := hob.kept (f1.2 _ hob.lt (by rw [hot]; decide))
  have hot1 := (tx _ hob.lt).trans hot
  refine lv_i2l (v := (((oFinish M).2.1)).toInt64) hx hb dL_finish_6 rfl ?_
  refine x_last (i := 0) (x := (((oFinish M).2.1)).toInt64) hx hb hK hS hob1 hAo (by omega) (by decide) dL_finish_7 (fun H2 locs2 hob2 hz2 hq2 hS => ?_)
  have f2 : FR tg1 (fun t => t = 7) H1 H2 := ⟨by omega, fun q9 _ h8 => hq2 q9 (fun z => h8 (by rw [z]; exact hot1))⟩
  have hR2 := hR1.out f2 (Or.inl rfl)
  have f3 : FR tg (fun t => t ≠ 0 ∧ t ≠ 8) H H2 := (f1.wk (fun t z => ⟨z.1, z.2.2⟩)).tr tx (f2.wk (fun t z => by omega))
  refine lv_goto (tgt := 14) hx hb dL_finish_8 (by decide) ?_
  refine lv_iconst (v := nI 0) hx hb dL_finish_14 (by decide) ?_
  exact r_i hx hb hrt9 hlk hS (Nat.le_of_ble_eq_true rfl) (Nat.le_of_ble_eq_true rfl) dL_finish_15 (⟨⟨by rw [h1], by rw [h1]; decide⟩, ⟨_, hob2, fun _ => if_pos rfl⟩, tg1, hR2, tx, f3⟩)
set_option maxHeartbeats 4000000 in
set_option maxRecDepth 100000 in
theorem c_L_run (l : Launch) {D : va_G} {T : Nat → ClassId} {dE mi : Nat} (hst : l.stackTraces = false) {A : Nat → Prop} {H : Heap} {b0 bd : Nat} {tg : Nat → Nat} {M : mSt} (hR : RepT D T dE b0 A tg H M) (hI : Inv bd M) {ob : Nat} {f0 : Nat → Int64} (hob : jc (T 4) H ob 1 f0) (hot : tg ob = 7) (hAo : A ob) : vx_Met l yL_run wsL_run (rmL 8 1 6) (PcE D T dE mi A H [.ref b0, .ref ob]) (QI A (PW D T dE b0 A tg H ob (oRun M))) (XX A (XN)) 1 6 A := by
  refine entryH (hh := [(0, 8, 11, 13)]) (cc := cL_run) (maxL := 3) (ret := (some .int)) (by decide) rfl (Nat.le_of_ble_eq_true rfl) ?_
  intro p e s m args below meth c hx hb hrt9 hml hown hts hlk htb hnm hev hS ls hl
  have hown : s.vm.findClass RL = some m.cls := hown
  have hK := hev.1
  have hl : lv_has ls 3 [(0, .ref b0), (1, .ref ob)] := hl
  obtain ⟨y, zq, zy, wo, hC, hQ, hY, hW, hwo⟩ := id hR
  have hX := hC.2.1
  have hrv : ∃ cell : Cell, H[b0]? = some cell ∧ cell.vm.isStatics = false ∧ s.vm.findClass "Archeloft" = some cell.cls := x_recv hK hX.1 rfl
  refine lv_aload_n hx hb dL_run_0 rfl (lv_at hl 1 rfl) ?_
  refine lv_iconst (v := nI 0) hx hb dL_run_1 (by decide) ?_
  refine lv_aload_n hx hb dL_run_2 rfl (lv_at hl 0 rfl) ?_
  refine k_i (k_V (As := []) (rest := [.int (nI 0), .ref ob]) ⟨hx, hb, hml, hown, hts⟩ hev hS (u_run l hst hR hI) (cwV 0 hts gL_run_X6_run rfl rfl rfl (by decide +kernel) ⟨Nat.le_of_ble_eq_true rfl, Nat.le_of_ble_eq_true rfl⟩) (x_recv hK hX.1 rfl) rfl hl.1 (Nat.le_of_ble_eq_true rfl) dL_run_3 (Nat.le_of_ble_eq_true rfl) (Nat.le_of_ble_eq_true rfl)) hS (fun E9 ce9 qx Hx locsx hx9 hzx hS h7 h8 h9 => ?_) (fun rq1_ H1 locs1 hP hz1 hS => ?_)
  · obtain ⟨hm9, hk9⟩ := hx9
    obtain ⟨hE, hc9⟩ := mem1 hm9
    · subst hE
      have hs9 : (oRun M).2.2 = M := es_run (by rw [hc9]; decide)
      have f7 : FR tg (fun t => t ≠ 0 ∧ t ≠ 8) H Hx := FR.kp hk9
      refine vx_catch (own := RL) (name := "java/lang/IllegalStateException") (E := "java/lang/IllegalStateException") hown (tableOf []) ⟨0, 8, 11, 13⟩ (tableOf []) (htb.trans rfl) PsR.nl (by decide) (by decide) (hts (.classLink RL 13 "java/lang/IllegalStateException") (by decide +kernel)) (va_Nw.use rfl (hev.2.2.2.1 ("java/lang/IllegalStateException", "java/lang/IllegalStateException") (by decide +kernel))) h7 h8 h9 ?_
      refine lv_astore_n (lv' := [(2, .ref qx), (0, .ref b0), (1, .ref ob)]) hx hb dL_run_11 rfl hl (by decide) rfl (fun ls hl => ?_)
      refine lv_iconst (v := nI 1) hx hb dL_run_12 (by decide) ?_
      exact r_i hx hb hrt9 hlk hS (Nat.le_of_ble_eq_true rfl) (Nat.le_of_ble_eq_true rfl) dL_run_13 (⟨⟨by rw [hc9], by rw [hc9]; decide⟩, ⟨_, hob.kept (hk9.2 _ hob.lt), fun z => by rw [hc9] at z; cases z⟩, tg, by rw [hs9]; exact hR.kp hk9, TX.rf, f7⟩)
  -- on
  obtain ⟨h1, h2, tg1, hR1, tx, f1⟩ := hP
  refine x_top (y := (((oRun M).2.1))) (h2) ?_
  have hob1 := hob.kept (f1.2 _ hob.lt (by rw [hot]; decide))
  have hot1 := (tx _ hob.lt).trans hot
  refine lv_i2l (v := (((oRun M).2.1)).toInt64) hx hb dL_run_6 rfl ?_
  refine x_last (i := 0) (x := (((oRun M).2.1)).toInt64) hx hb hK hS hob1 hAo (by omega) (by decide) dL_run_7 (fun H2 locs2 hob2 hz2 hq2 hS => ?_)
  have f2 : FR tg1 (fun t => t = 7) H1 H2 := ⟨by omega, fun q9 _ h8 => hq2 q9 (fun z => h8 (by rw [z]; exact hot1))⟩
  have hR2 := hR1.out f2 (Or.inl rfl)
  have f3 : FR tg (fun t => t ≠ 0 ∧ t ≠ 8) H H2 := (f1.wk (fun t z => ⟨z.1, z.2.2⟩)).tr tx (f2.wk (fun t z => by omega))
  refine lv_goto (tgt := 14) hx hb dL_run_8 (by decide) ?_
  refine lv_iconst (v := nI 0) hx hb dL_run_14 (by decide) ?_
  exact r_i hx hb hrt9 hlk hS (Nat.le_of_ble_eq_true rfl) (Nat.le_of_ble_eq_true rfl) dL_run_15 (⟨⟨by rw [h1], by rw [h1]; decide⟩, ⟨_, hob2, fun _ => if_pos rfl⟩, tg1, hR2, tx, f3⟩)
