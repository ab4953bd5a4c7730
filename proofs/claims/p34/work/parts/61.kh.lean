/-! methods with a table of handlers -/
theorem entryH {l : Launch} {y : MethodName} {ws ws' : List Cond} {k mc ms : Nat} {Qc : Array Value → State → Outcome → State → Prop} {XC : String → State → State → Prop} {D : va_G} {T : Nat → ClassId} {dE mi : Nat} {A : Nat → Prop} {H : Heap} {as : List Value} {cc : ByteArray} {maxL : Nat} {ret : Option FieldType} {hh : List (Nat × Nat × Nat × Nat)}
    (hy : plainName y.cls = true) (hw : ws = Cond.codeWith y cc maxL ret hh :: ws') (hle : (lg_sl as).length ≤ maxL)
    (body : ∀ (p : Program) (e : Env) (s : State) (m : MethodId) (args : Array Value) (below : List Frame) (meth : Method) (c : Code), p.tables.exec = Jvm.exec → c.code = cc → meth.sig.returnType = ret → c.maxLocals = maxL → s.vm.findClass y.cls = some m.cls → (∀ w ∈ ws, w.before args s = true) → meth.locks = false → c.exceptionTable.toList = tableOf hh → meth.name = y.name → EV D T dE mi A s → va_S A s.heap H [] →
      ∀ ls : Array Slot, lv_has ls maxL (lv_args 0 as) → W p l e (rmL k mc ms) s m args below meth c H [] 0 0 (vx_MQ below Qc XC args s mc ms A) (F0 m 0 ls [])) : vx_Met l y ws (rmL k mc ms) (PcE D T dE mi A H as) Qc XC mc ms A := by
  refine vx_ofWH hy hw ?_
  intro p e s m args below meth c s₁ B hml hv
  obtain ⟨rfl, hsz, hev⟩ := hv
  subst hsz
  rw [lg_entry_eq]
  exact body p e s m _ below meth c B.exec B.bytes B.returns hml (findClass_of_methodNamed B.named) (atoms_spec (ws := ws) B.pre) B.notSynchronized (vx_table (x := y) B (atoms_spec (ws := ws) B.pre _ (by rw [hw]; exact List.mem_cons_self))) (name_of_methodNamed B.named B.method).1 hev va_S.rf _ (lv_entry as hle)
section KH
variable {p : Program} {l : Launch} {e : Env} {R : Room} {s : State} {m : MethodId} {args : Array Value} {below : List Frame} {meth : Method} {c : Code} {H : Heap} {locs : List Loc} {cells slots : Nat} {Q : State → Prop}
variable {cc : ByteArray} {pc : Nat} {ls : Array Slot} {rest st0 : List Value} {D : va_G} {T : Nat → ClassId} {dE mi : Nat} {A : Nat → Prop} {H0 : Heap}
variable {y : MethodName} {bytes : ByteArray} {maxL nL mc ms n index : Nat} {ret : Option FieldType} {ws : List Cond} {rm : Room} {Qc : Array Value → State → Outcome → State → Prop} {XC : String → State → State → Prop} {Ts : List Cond} {own C : String} {b : Addr} {As : List Value} {hh : List (Nat × Nat × Nat × Nat)}
theorem k_VW (S : CallFix p m c cc nL s args Ts own) (hev : EV D T dE mi A s) (hS : va_S A s.heap H locs) (hM : vx_Met l y ws rm (PcE D T dE mi A H (.ref b :: As)) Qc XC mc ms A) (cw : vx_CVW R s args own C index y bytes maxL ret hh ws rm mc ms n) (hrecv : ∃ cell : Cell, H[b]? = some cell ∧ cell.vm.isStatics = false ∧ s.vm.findClass C = some cell.cls)
    (hn : As.length = n) (hsize : ls.size = nL) (hW : (rest.map fun v => v.category).sum ≤ 8) (hdg : decode cc pc = .ok (.invokevirtual index, 3)) (hc : cells + mc ≤ R.cells) (hs : slots + ms ≤ R.slots) :
    vx_Run p l e R s m args below meth c H locs cells slots mc ms (F0 m pc ls (As.reverse ++ .ref b :: rest)) rest (Qc (Value.ref b :: As).toArray) XC A :=
  vx_runVX S hM cw ⟨PcE.blind, hrecv, fun U hU hW => ⟨rfl, hU, hev.go hS hU hW⟩⟩ rfl hn hsize rfl (lv_room hW) hdg ⟨hc, hs⟩
theorem k_SW (S : CallFix p m c cc nL s args Ts own) (hev : EV D T dE mi A s) (hS : va_S A s.heap H locs) (hM : vx_Met l y ws rm (PcE D T dE mi A H As) Qc XC mc ms A) (cw : vx_CSW R s args own index y bytes maxL ret hh ws rm mc ms n)
    (hn : As.length = n) (hsize : ls.size = nL) (hW : (rest.map fun v => v.category).sum ≤ 8) (hdg : decode cc pc = .ok (.invokestatic index, 3)) (hc : cells + mc ≤ R.cells) (hs : slots + ms ≤ R.slots) :
    vx_Run p l e R s m args below meth c H locs cells slots mc ms (F0 m pc ls (As.reverse ++ rest)) rest (Qc As.toArray) XC A :=
  vx_runSX S hM cw ⟨PcE.blind, fun U hU hW => ⟨rfl, hU, hev.go hS hU hW⟩⟩ rfl hn hsize rfl (lv_room hW) hdg ⟨hc, hs⟩
/-- the rows ahead that don't take what is thrown -/
def PsR (own E : String) (args : Array Value) (s : State) (pc : Nat) (z : ExceptionTableEntry) : Prop := covers z pc = false ∨ (z.catchType ≠ 0 ∧ ∃ nm : String, (Cond.classLink own z.catchType nm).before args s = true ∧ va_Nc E nm s)
theorem PsR.nl {E : String} : ∀ z ∈ ([] : List ExceptionTableEntry), PsR own E args s pc z := fun z h => (List.not_mem_nil h).elim
theorem PsR.cs {E : String} {x : ExceptionTableEntry} {q : List ExceptionTableEntry} (h : PsR own E args s pc x) (t : ∀ z ∈ q, PsR own E args s pc z) : ∀ z ∈ x :: q, PsR own E args s pc z := fun z hz => (List.mem_cons.mp hz).elim (fun e => e ▸ h) (t z)
theorem PsR.on {E nm : String} {x : ExceptionTableEntry} (h0 : x.catchType ≠ 0) (h1 : (Cond.classLink own x.catchType nm).before args s = true) (h2 : va_Nc E nm s) : PsR own E args s pc x := Or.inr ⟨h0, nm, h1, h2⟩
end KH
/-! a waiting command, by the calls' own answers -/
theorem do_mk {E : mE} {R : mR} {t h k v : Int32} (hf : free E < 32) (hk : isK k = true) : doC E R t (nI 3) h k v = (true, madeE E (ix k) v t, madeR E R (ix k)) := by
  unfold doC
  rw [if_pos rfl, if_neg (fun z => z.elim (fun z => by omega) (fun z => by rw [hk] at z; cases z))]
  rfl
theorem do_mk0 {E : mE} {R : mR} {t h k v : Int32} (hf : free E = 32 ∨ isK k = false) : doC E R t (nI 3) h k v = (false, E, R) := by
  unfold doC
  rw [if_pos rfl, if_pos hf]
theorem do_add {M : mSt} {h k v : Int32} (hw : ¬ wOn (sW M) = true) : doC (sE M) (sR M) (sT M) (nI 0) h k v = (decide ((oAdd M h k v).1 = 0), sE (oAdd M h k v).2.2, sR (oAdd M h k v).2.2) := by
  unfold doC oAdd
  rw [if_neg (by decide)]
  cases look (sE M) h with
  | none => rfl
  | some s =>
    show (if nI 0 = nI 2 then _ else if isK k = false then _ else if nI 0 = nI 0 then _ else _) = _
    rw [if_neg (by decide), if_pos rfl]
    by_cases c1 : isK k = false
    · simp only [if_pos c1]; rfl
    · simp only [if_neg c1]
      by_cases c2 : bitS (mKd (sE M) s) (ix k) = true
      · rw [if_pos c2, if_pos (Or.inl c2)]; rfl
      · rw [if_neg c2, if_neg (fun z => z.elim c2 hw)]; rfl
theorem do_take {M : mSt} {h k v : Int32} (hw : ¬ wOn (sW M) = true) : doC (sE M) (sR M) (sT M) (nI 1) h k v = (decide ((oTake M h k).1 = 0), sE (oTake M h k).2.2, sR (oTake M h k).2.2) := by
  unfold doC oTake ask
  rw [if_neg (by decide)]
  cases look (sE M) h with
  | none => rfl
  | some s =>
    show (if nI 1 = nI 2 then _ else if isK k = false then _ else if nI 1 = nI 0 then _ else _) = _
    rw [if_neg (by decide), if_neg (show ¬ nI 1 = nI 0 by decide)]
    by_cases c1 : isK k = false
    · simp only [if_pos c1]; rfl
    · simp only [if_neg c1]
      by_cases c2 : bitS (mKd (sE M) s) (ix k) = false
      · simp only [if_pos c2]; rfl
      · simp only [if_neg c2, if_neg hw]; rfl
theorem do_end {M : mSt} {h k v : Int32} (hw : ¬ wOn (sW M) = true) : doC (sE M) (sR M) (sT M) (nI 2) h k v = (decide ((oEnd M h).1 = 0), sE (oEnd M h).2.2, sR (oEnd M h).2.2) := by
  unfold doC oEnd
  rw [if_neg (by decide)]
  cases look (sE M) h with
  | none => rfl
  | some s =>
    show (if nI 2 = nI 2 then _ else _) = _
    simp only [if_pos, if_neg hw]; rfl
theorem add_same {M : mSt} {x k v : Int32} (h : (oAdd M x k v).1 ≠ 0) : (oAdd M x k v).2.2 = M := by
  unfold oAdd at h ⊢
  cases hq : look (sE M) x with
  | none => rfl
  | some s =>
    rw [hq] at h
    simp only at h ⊢
    split
    · rfl
    · split
      · rfl
      · rename_i c1 c2; rw [if_neg c1, if_neg c2] at h; exact absurd rfl h
theorem take_same {M : mSt} {x k : Int32} (h : (oTake M x k).1 ≠ 0) : (oTake M x k).2.2 = M := by
  unfold oTake at h ⊢
  split
  · rfl
  · split
    · rfl
    · rename_i c1 c2; rw [if_neg c1, if_neg c2] at h; exact absurd rfl h
theorem end_same {M : mSt} {x : Int32} (h : (oEnd M x).1 ≠ 0) : (oEnd M x).2.2 = M := by
  unfold oEnd at h ⊢
  cases hq : look (sE M) x with
  | none => rfl
  | some s =>
    rw [hq] at h
    simp only at h ⊢
    split
    · rfl
    · rename_i c1; rw [if_neg c1] at h; exact absurd rfl h
