/-! the machine at the law's start -/
theorem st_arr {ty : FieldType} {s : State} {args : Array Value} (hn : ∀ C, ty ≠ .object C) (h : (Cond.arrayClass ty).before args s = true) : ∃ cA : ClassId, ArrOfT s cA ty ∧ va_RA s cA ty := by
  obtain ⟨c, k, comp, h1, h2, h3⟩ := Cond.arrayClass_spec h
  refine ⟨c, fun N z => ⟨(fun q h => by cases h), k, h2, comp, h3⟩, ?_⟩
  cases ty with
  | object C => exact absurd rfl (hn C)
  | _ => exact h1
theorem st_arq {C : String} {s : State} {args : Array Value} (h : (Cond.arrayOver (.object C)).before args s = true) : ∃ cA : ClassId, ArrOfT s cA (.object C) ∧ va_RA s cA (.object C) := by
  obtain ⟨comp, c, k, h1, h2, h3, h4, h5⟩ := Cond.arrayOver_spec h
  exact ⟨c, fun N z => ⟨(fun q h => by cases h), k, h3, comp, h4⟩, k, comp, h3, h4, h1, h5⟩
theorem st_cls {s : State} {args : Array Value} {C : String} {TT : u_T} {N n : Nat} (hts : ∀ w ∈ lw_tbl, w.before args s = true) (hin : ∀ w ∈ u_ws C TT N, w ∈ lw_tbl) (hi : Cond.instantiable C n ∈ lw_tbl) : ∃ (cC : ClassId) (iS : Nat → Nat), u_Kn s C TT N cC iS := u_known hts hin (hts _ hi)
theorem st_cl0 : ∀ q ∈ vwCl, (∀ w ∈ u_ws q.1 q.2.1 q.2.2, w ∈ lw_tbl) ∧ ∃ n, Cond.instantiable q.1 n ∈ lw_tbl := by
  refine List.forall_mem_cons.mpr ⟨⟨by decide +kernel, 4, by decide +kernel⟩, List.forall_mem_cons.mpr ⟨⟨by decide +kernel, 4, by decide +kernel⟩, List.forall_mem_cons.mpr ⟨⟨by decide +kernel, 3, by decide +kernel⟩, List.forall_mem_cons.mpr ⟨⟨by decide +kernel, 4, by decide +kernel⟩, List.forall_mem_cons.mpr ⟨⟨by decide +kernel, 6, by decide +kernel⟩, List.forall_mem_cons.mpr ⟨⟨by decide +kernel, 3, by decide +kernel⟩, List.forall_mem_cons.mpr ⟨⟨by decide +kernel, 2, by decide +kernel⟩, List.forall_mem_cons.mpr ⟨⟨by decide +kernel, 3, by decide +kernel⟩, List.forall_mem_cons.mpr ⟨⟨by decide +kernel, 3, by decide +kernel⟩, List.forall_mem_cons.mpr ⟨⟨by decide +kernel, 6, by decide +kernel⟩, fun _ h => absurd h List.not_mem_nil⟩⟩⟩⟩⟩⟩⟩⟩⟩⟩
theorem st_K {s : State} {args : Array Value} (hts : ∀ w ∈ lw_tbl, w.before args s = true) : ∃ (D : va_G) (T : Nat → ClassId), va_K D vwCl (tysT T) s := by
  have h1 : ∀ c : Nat, ∃ (cC : ClassId) (iS : Nat → Nat), ∀ q, vwCl[c]? = some q → u_Kn s q.1 q.2.1 q.2.2 cC iS := by
    intro c
    cases hc : vwCl[c]? with
    | none => exact ⟨0, fun _ => 0, fun q h => by cases h⟩
    | some q =>
      obtain ⟨hin, n, hi⟩ := st_cl0 q (List.mem_of_getElem? hc)
      obtain ⟨cC, iS, hK⟩ := st_cls hts hin hi
      exact ⟨cC, iS, fun q2 h => by cases h; exact hK⟩
  obtain ⟨t0, a0⟩ := st_arr (ty := .int) (fun C h => by cases h) (hts _ (by decide +kernel))
  obtain ⟨t1, a1⟩ := st_arr (ty := .byte) (fun C h => by cases h) (hts _ (by decide +kernel))
  obtain ⟨t2, a2⟩ := st_arq (C := "Archeloft$Entity") (hts _ (by decide +kernel))
  obtain ⟨t3, a3⟩ := st_arq (C := "java/lang/Object") (hts _ (by decide +kernel))
  refine ⟨(fun c => Classical.choose (h1 c), fun c => Classical.choose (Classical.choose_spec (h1 c))), fun k => [t0, t1, t2, t3].getD k t0, fun c q hq => Classical.choose_spec (Classical.choose_spec (h1 c)) q hq, fun k q hk => ?_⟩
  match k, hk with
  | 0, hk => cases hk; exact a0
  | 1, hk => cases hk; exact a1
  | 2, hk => cases hk; exact a2
  | 3, hk => cases hk; exact a3
  | k + 4, hk => cases hk
def evNarrow : List Cond := [Cond.arrayOf (Term.static RJx4a65c "DEFAULTCAPACITY_EMPTY_ELEMENTDATA" "[Ljava/lang/Object;") (.object "java/lang/Object"), Cond.eq (Term.length (Term.static RJx4a65c "DEFAULTCAPACITY_EMPTY_ELEMENTDATA" "[Ljava/lang/Object;")) (Term.int 0), Cond.isRef (Term.static Bundle.tN "UNASSIGNED_STACK" Bundle.steD), Cond.isRef (Term.static Bundle.tN "SUPPRESSED_SENTINEL" Bundle.listD), Cond.isRef (Term.mirror "[Ljava/lang/Object;")]
theorem st_n0 : ∀ w ∈ evNarrow, w ∈ flatC (Jvm.Cond.and given_1 narrow_1) := by decide +kernel
theorem st_nc : ∀ x ∈ evNc, Cond.not (.castable x.1 x.2) ∈ flatC (Jvm.Cond.and given_1 narrow_1) := by decide +kernel
theorem st_st : ∀ x ∈ evStr, Cond.exactly (Term.string RX6 x.1) "java/lang/String" ∈ flatC (Jvm.Cond.and given_1 narrow_1) := by decide +kernel
theorem st_sr : ∀ x ∈ evStr, Cond.stringRef RX6 x.1 x.2 ∈ lw_tbl := by decide +kernel
theorem st_ca : ∀ x ∈ evCast, Cond.castable x.1 x.2 ∈ lw_tbl := by decide +kernel
theorem st_de : ∀ x ∈ evDec, Cond.declares (Bundle.initS x) ∈ lw_tbl := by decide +kernel
theorem st_ne : ∀ x ∈ evNest, Cond.fieldLinkNest x.1 x.2.1 x.2.2.1 x.2.2.2.1 x.2.2.2.2 "Archeloft" ∈ lw_tbl := by decide +kernel
theorem st_EV {s : State} {args : Array Value} (hts : ∀ w ∈ lw_tbl, w.before args s = true) (hgv : (Jvm.Cond.and given_1 narrow_1).before args s = true) : ∃ (D : va_G) (T : Nat → ClassId) (dE mi : Nat), EV D T dE mi (fun q : Nat => s.heap.size ≤ q) s := by
  have hn := flat_of_before _ hgv
  have hA : ∀ a : Nat, a < s.heap.size → ¬ (fun q : Nat => s.heap.size ≤ q) a := fun a h => Nat.not_le.mpr h
  obtain ⟨D, T, hK⟩ := st_K hts
  have e0 := hn _ (st_n0 _ (show Cond.arrayOf (Term.static RJx4a65c "DEFAULTCAPACITY_EMPTY_ELEMENTDATA" "[Ljava/lang/Object;") (.object "java/lang/Object") ∈ evNarrow from List.mem_of_getElem? (i := 0) rfl))
  have e1 := hn _ (st_n0 _ (show Cond.eq (Term.length (Term.static RJx4a65c "DEFAULTCAPACITY_EMPTY_ELEMENTDATA" "[Ljava/lang/Object;")) (Term.int 0) ∈ evNarrow from List.mem_of_getElem? (i := 1) rfl))
  have e2 := hn _ (st_n0 _ (show Cond.isRef (Term.static Bundle.tN "UNASSIGNED_STACK" Bundle.steD) ∈ evNarrow from List.mem_of_getElem? (i := 2) rfl))
  have e3 := hn _ (st_n0 _ (show Cond.isRef (Term.static Bundle.tN "SUPPRESSED_SENTINEL" Bundle.listD) ∈ evNarrow from List.mem_of_getElem? (i := 3) rfl))
  have e4 := hn _ (st_n0 _ (show Cond.isRef (Term.mirror "[Ljava/lang/Object;") ∈ evNarrow from List.mem_of_getElem? (i := 4) rfl))
  obtain ⟨dE, hd, hT⟩ := va_Tof (A := fun q : Nat => s.heap.size ≤ q) (N := 0) (f := fun _ => Value.null) (by decide) e0 (va_eqt e1) (fun j hj => absurd hj (Nat.not_lt_zero j)) hA
  obtain ⟨mi, hmi⟩ := va_Mi.of e4
  have hdA : ¬ (fun q : Nat => s.heap.size ≤ q) dE := by
    obtain ⟨cell, hc, -⟩ := id hT
    exact hA dE (Array.getElem?_eq_some_iff.mp hc).1
  refine ⟨D, T, dE, mi, hK, ⟨va_Zref (hts _ (by decide +kernel)) (hts _ (by decide +kernel)) hd hA, hT, hdA⟩, ⟨vx_Zqof (hts _ (by decide +kernel)) (hts _ (by decide +kernel)) e2 hA, vx_Zqof (hts _ (by decide +kernel)) (hts _ (by decide +kernel)) e3 hA⟩, fun x hx => va_any rfl (hts _ (st_ca x hx)), ⟨⟨fun x hx => va_Nc.of (hn _ (st_nc x hx)), fun x hx => va_any rfl (hts _ (st_de x hx))⟩, fun x hx => va_any rfl (hts _ (st_ne x hx))⟩, fun x hx => ?_, ⟨va_AO.of (hts _ (by decide +kernel)), va_AO.of (hts _ (by decide +kernel))⟩, hmi, va_Dc.of (hts _ (by decide +kernel))⟩
  obtain ⟨a, c, cell, k, h1, -⟩ := Cond.exactly_spec (hn _ (st_st x hx))
  exact ⟨a, vk_R.of (A := args) (hts _ (st_sr x hx)) h1⟩
