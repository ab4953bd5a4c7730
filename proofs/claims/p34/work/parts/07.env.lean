section VXIA
variable {p : Program} {l : Launch} {e : Env} {R : Room} {s : State} {m : MethodId} {args : Array Value} {below : List Frame} {meth : Method} {c : Code} {T : State} {locs : List Loc} {cells slots : Nat}
theorem vx_callI (X : Stand p l e R s m args below meth c T locs cells slots) (hexec : p.tables.exec = Jvm.exec) {own : String} {index : Nat} {y : MethodName} {bytes : ByteArray} {maxL : Nat}
    (hown : s.vm.findClass own = some m.cls) (hy1 : y.name = "<init>") (hlink : (Cond.methodLink own index y).before args s = true) (hinst : (Cond.instanceMethod y).before args s = true)
    (hcode : (Cond.code y bytes maxL none).before args s = true) (hy : y.cls ≠ "java/lang/invoke/MethodHandle" ∧ y.cls ≠ "java/lang/invoke/VarHandle")
    {W9 : Nat} {Pre : Pt → Array Value → Prop} {Post : Pt → Array Value → Option Value → Pt → Prop} {PostX : Pt → Array Value → Addr → Pt → Prop} (hK : vx_Back l R p e below s args y 3 W9 Pre Post PostX)
    {g : JFrame} (hg : g.method = m) (hsize : g.locals.size = c.maxLocals) {a : Addr} {argsL rest : List Value} (hlen : ∀ sig, parseMethodDescriptor y.desc = some sig → argsL.length = sig.parameters.length)
    (hstack : g.stack = argsL.reverse ++ .ref a :: rest) (hW : 2 * g.monitorRoom + (rest.map fun v => v.category).sum ≤ W9) (hdg : decode c.code g.pc = .ok (.invokespecial index, 3))
    (hpre : ∀ vm₁, s.WarmedH vm₁ → Pre ⟨T.setVm vm₁, locs, cells, slots⟩ (Value.ref a :: argsL).toArray) :
    (∃ (v : Option Value) (vm₁ : Vm) (B : Pt), s.WarmedH vm₁ ∧ Stand p l e R s m args below meth c B.U B.locs B.cells B.slots ∧ Post ⟨T.setVm vm₁, locs, cells, slots⟩ (Value.ref a :: argsL).toArray v B ∧
      ∀ target, Steps p.tables e below (B.U.setTop { g with pc := g.pc + 3, stack := v.toList ++ rest }) target → Steps p.tables e below (T.setTop g) target) ∨
    (∃ (q : Addr) (vm₁ : Vm) (B : Pt), s.WarmedH vm₁ ∧ Stand p l e R s m args below meth c B.U B.locs B.cells B.slots ∧ PostX ⟨T.setVm vm₁, locs, cells, slots⟩ (Value.ref a :: argsL).toArray q B ∧
      Steps p.tables e below (T.setTop g) ((B.U.setTop { g with stack := rest }).pushFrame (.throwing q))) := by
  subst hg
  have hpl : e.platform.magicAccessors = ({} : Platform).magicAccessors := by rw [X.admits.platform]
  obtain ⟨mk, methM, cM, kP, vm₁, hnamed, hmethM, hcodeM, -, hlocalsM, -, hkP, -, hW₁, hstep₁⟩ := Steps.initColdArgs (e := e) X.here hexec X.warmed hpl hown hy1 hy hlink hinst hcode (f := g) rfl hlen hstack hdg
  have X₁ := X.noted hW₁
  rcases hK g.method meth c ⟨T.setVm vm₁, locs, cells, slots⟩ { g with stack := rest } (.invokespecial index) mk (Value.ref a :: argsL).toArray X₁ rfl hsize hdg hW (X₁.named hnamed) (hpre vm₁ X₁.warmed) with ⟨v, B, X', hpost, hsteps⟩ | ⟨q, B, X', hpost, hsteps⟩
  · exact Or.inl ⟨v, vm₁, B, X₁.warmed, X', hpost, fun target h => hstep₁ _ fun acts => by rw [doInvoke_state]; exact hsteps.trans h⟩
  · exact Or.inr ⟨q, vm₁, B, X₁.warmed, X', hpost, hstep₁ _ fun acts => by rw [doInvoke_state]; exact hsteps⟩
end VXIA
section VXIB
variable {p : Program} {l : Launch} {e : Env} {R : Room} {s : State} {m : MethodId} {args : Array Value} {below : List Frame} {meth : Method} {c : Code} {H : Heap} {locs : List Loc} {cells slots : Nat}
variable {y : MethodName} {bytes cc : ByteArray} {maxL nL mc ms n index : Nat} {ret : Option FieldType} {ws : List Cond} {rm : Room} {Pc : Array Value → State → Prop} {Qc : Array Value → State → Outcome → State → Prop} {XC : String → State → State → Prop} {free : Addr → Prop} {Ts : List Cond} {own C : String} {b : Addr} {As rest : List Value} {g : JFrame}
theorem vx_runI (S : CallFix p m c cc nL s args Ts own) (hM : vx_Met l y ws rm Pc Qc XC mc ms free) (cw : CallB R s args own index y bytes maxL none ws rm mc ms n ∧ y.name = "<init>" ∧ (Cond.instanceMethod y).before args s = true) (hp : PreS s H Pc (.ref b :: As))
    (hg : g.method = m) (hn : As.length = n) (hsize : g.locals.size = nL) (hstack : g.stack = As.reverse ++ .ref b :: rest) (hW : 2 * g.monitorRoom + (rest.map fun v => v.category).sum ≤ 8) (hdg : decode cc g.pc = .ok (.invokespecial index, 3)) (hf : cells + mc ≤ R.cells ∧ slots + ms ≤ R.slots) :
    vx_Run p l e R s m args below meth c H locs cells slots mc ms g rest (Qc (Value.ref b :: As).toArray) XC free := by
  have hK : vx_Back l R p e below s args y 3 8 (PreOf R mc ms Pc) (PostOf Qc mc ms free) (vx_Post XC mc ms free) := vx_callBack cw.1 hM hp.1
  obtain ⟨⟨-, -, -, -, -, -, hcode, -, hy, hlen, hl⟩, hy1, hin⟩ := cw
  obtain ⟨hx, hb, hml, ho, -⟩ := S
  have hPc := hp.2
  intro T hT X
  rcases vx_callI X hx (bytes := bytes) (maxL := maxL) ho hy1 hl hin hcode hy hK hg (hsize.trans hml.symm) (a := b) (argsL := As) (rest := rest) (fun sig h => hn.trans (hlen sig h)) hstack hW (by rw [hb]; exact hdg)
    (fun vm₁ hW₁ => ⟨hf.1, hf.2, hPc (T.setVm vm₁) hT hW₁⟩) with ⟨v, vm₁, ⟨U', l2, c2, s2⟩, hW₁, X', ⟨g', mk, t, L, e1, e2, hq, h1, hL, h2, h3⟩, st⟩ | ⟨q, vm₁, ⟨U', l2, c2, s2⟩, hW₁, X', ⟨g', mk, t, L, E, ce, e1, e2, hq, hce, hcv, hcl, h1, hL, h2, h3⟩, st⟩
  · dsimp only [Pt.U, Pt.locs, Pt.cells, Pt.slots] at X' e1 e2 h1 h2 h3 st
    subst h1; subst h2; subst h3
    exact Or.inl ⟨v, (T.setVm vm₁).calling g' mk (Value.ref b :: As).toArray, t, U', L, hT, X', hL, e1, e2, hq, st⟩
  · dsimp only [Pt.U, Pt.locs, Pt.cells, Pt.slots] at X' e1 e2 h1 h2 h3 st hcl
    subst h1; subst h2; subst h3
    exact Or.inr ⟨q, (T.setVm vm₁).calling g' mk (Value.ref b :: As).toArray, t, U', L, E, ce, hT, X', hL, e1, e2, hq, hce, hcv, vx_cls hW₁ hcl, st⟩
end VXIB
/-! ===== END ===== -/
/-! ===== BEGIN a private constructor of a nest mate that throws ===== -/
section
variable {p : Program} {l : Launch} {e : Env} {R : Room} {s : State} {m : MethodId} {args : Array Value} {below : List Frame} {meth : Method} {c : Code} {H : Heap} {locs : List Loc} {cells slots : Nat} {Q : State → Prop}
variable {mc ms : Nat} {free : Addr → Prop} {A0 A1 : Nat → Prop} {H0 : Heap} {a : Array Value} {pc : Nat} {ls : Array Slot} {st0 rest : List Value}
theorem vx_callq {S SX : Type} {post : Option Nat → S → Prop} {px : SX → Prop} {B : S → State → Prop} {BX : String → SX → State → Prop} {AX : Nat → Prop} (hr : vx_Run p l e R s m args below meth c H locs cells slots mc ms (F0 m pc ls st0) rest (va_Qq post B A1 a) (vx_X px BX AX) free) (hS : va_S A0 H0 H locs) (hA : ∀ q, q < H.size → A1 q → A0 q) (hf : ∀ q, free q → A0 q) (hAX : ∀ q, q < H.size → AX q → A0 q)
    (kx : ∀ (E : String) (ce : Cell) (q9 : Addr) (u : SX) (t : State) (H1 : Heap) (locs1 : List Loc), t.heap = H1 → s.vm.Alike t.vm → px u → BX E u t → H.size ≤ H1.size → (∀ q : Nat, q < H.size → ¬ AX q → H1[q]? = H[q]?) → va_S A0 H0 H1 locs1 → H1[q9]? = some ce → ce.vm = .none → s.vm.findClass E = some ce.cls → vx_W p l e R s m args below meth c H1 locs1 (cells + mc) (slots + ms) Q (F0 m pc ls rest) q9)
    (kk : ∀ (r : Option Nat) (u : S) (t : State) (H1 : Heap) (locs1 : List Loc), t.heap = H1 → s.vm.Alike t.vm → post r u → B u t → H.size ≤ H1.size → (∀ q : Nat, q < H.size → ¬ A1 q → H1[q]? = H[q]?) → va_S A0 H0 H1 locs1 → W p l e R s m args below meth c H1 locs1 (cells + mc) (slots + ms) Q (F0 m (pc + 3) ls (va_rf r :: rest))) : W p l e R s m args below meth c H locs cells slots Q (F0 m pc ls st0) := by
  intro T hT X
  rcases hr T hT X with ⟨v, st₀, t, T', L, h0, X', hL, e1, e2, ⟨⟨r, u, hv, hp, hb⟩, hF⟩, st⟩ | ⟨q, st₀, t, T', L, E, ce, h0, X', hL, e1, e2, ⟨u, hp, hb, hF⟩, hce, hcv, hcl, st⟩
  · cases hv
    obtain ⟨k1, k2, k3⟩ := vx_keep h0 e1 hS hA hf hL hF
    obtain ⟨t2, a1, b1⟩ := kk r u t T'.heap (locs ++ L) e1.symm (by rw [← e2]; exact X'.warmed.alike) hp hb k1 k2 k3 T' rfl X'
    exact ⟨t2, st t2 a1, b1⟩
  · obtain ⟨k1, k2, k3⟩ := vx_keep h0 e1 hS hAX hf hL hF
    obtain ⟨t2, a1, b1⟩ := kx E ce q u t T'.heap (locs ++ L) e1.symm (by rw [← e2]; exact X'.warmed.alike) hp hb k1 k2 k3 (by rw [e1]; exact hce) hcv hcl T' rfl X'
    exact ⟨t2, st.trans a1, b1⟩
end
/-! ===== END ===== -/
/-! ===== BEGIN .. a constant ===== -/
/-! what every contract takes as given of the machine: class tables, statics, texts -/
def evCast : List (String × String) := [("Archeloft$Entity", "java/lang/Object"), ("Archeloft$Row", "java/lang/Object"), ("Archeloft$Question", "java/lang/Object"), ("Archeloft$StagedSystem", "java/lang/Object"), ("Archeloft$Command", "java/lang/Object"), ("java/lang/IllegalStateException", "java/lang/IllegalStateException"), ("java/lang/IllegalArgumentException", "java/lang/IllegalArgumentException"), ("java/util/NoSuchElementException", "java/util/NoSuchElementException"), ("java/lang/IndexOutOfBoundsException", "java/lang/IndexOutOfBoundsException")]
def evNc : List (String × String) := [("java/lang/IllegalStateException", "java/util/NoSuchElementException"), ("java/lang/IllegalStateException", "java/lang/IllegalArgumentException"), ("java/lang/IllegalStateException", "java/lang/IndexOutOfBoundsException"), ("java/lang/IllegalArgumentException", "java/util/NoSuchElementException"), ("java/lang/IllegalArgumentException", "java/lang/IllegalStateException"), ("java/util/NoSuchElementException", "java/lang/IllegalStateException"), ("java/util/NoSuchElementException", "java/lang/IllegalArgumentException"), ("java/lang/IndexOutOfBoundsException", "java/util/NoSuchElementException"), ("java/lang/IndexOutOfBoundsException", "java/lang/IllegalArgumentException"), ("java/lang/IndexOutOfBoundsException", "java/lang/IllegalStateException")]
def evNest : List (String × Nat × String × String × String) := [("Archeloft", 132, "Archeloft$Entity", "values", "[I"), ("Archeloft", 136, "Archeloft$Entity", "marks", "[I"), ("Archeloft", 142, "Archeloft$Row", "kindSet", "I"), ("Archeloft", 179, "Archeloft$Walk", "told", "I"), ("Archeloft", 182, "Archeloft$Walk", "answers", "Ljava/util/ArrayList;"), ("Archeloft", 190, "Archeloft$Walk", "commands", "Ljava/util/ArrayList;"), ("Archeloft", 218, "Archeloft$StagedSystem", "stage", "I"), ("Archeloft", 262, "Archeloft$Command", "what", "I"), ("Archeloft", 265, "Archeloft$Command", "handle", "I"), ("Archeloft", 266, "Archeloft$Command", "kind", "I"), ("Archeloft", 269, "Archeloft$Command", "value", "I"), ("Archeloft", 46, "Archeloft$Entity", "there", "Z"), ("Archeloft", 54, "Archeloft$Row", "members", "Ljava/util/ArrayList;"), ("Archeloft", 63, "Archeloft$Entity", "handle", "I"), ("Archeloft", 82, "Archeloft$Entity", "kindSet", "I"), ("Archeloft", 96, "Archeloft$Entity", "parent", "LArcheloft$Entity;"), ("Archeloft$StagedSystem", 21, "Archeloft$Entity", "values", "[I")]
def evStr : List (Nat × String) := [(115, "the entity has that kind"), (150, "there are 8 questions"), (187, "there is no such command"), (193, "20 commands wait"), (204, "there are 8 systems"), (215, "there is no such system"), (233, "there is a walk"), (235, "there is no walk"), (237, "there is no such kind"), (239, "this is no set of kinds"), (241, "an entity would go with itself"), (245, "the handle is of no entity"), (248, "the entity does not have that kind"), (250, "no slot is free"), (256, "there is no such row"), (258, "there is no such place"), (260, "there is no such question")]
def evDec : List String := ["java/lang/RuntimeException", "java/lang/Exception", Bundle.tN]
theorem vd_moved {y : MethodName} {u U : State} (hvm : u.vm.Alike U.vm) (h : va_Nw (.declares y) u) : va_Nw (.declares y) U := by
  have h1 : (Cond.declares y).before #[] (u.setVm U.vm) = true := by
    rw [Cond.declares_setVm hvm]
    exact h
  have e := Cond.onTables_vm (A := #[]) (A' := #[]) (U := u) (U' := U) U.vm (Cond.declares y) rfl
  have hU : U.setVm U.vm = U := rfl
  rw [hU] at e
  exact e.symm.trans h1
def EV (D : va_G) (T : Nat → ClassId) (dE mi : Nat) (A : Nat → Prop) (U : State) : Prop :=
  va_K D vwCl (tysT T) U ∧ (va_Z RJx4a65c "DEFAULTCAPACITY_EMPTY_ELEMENTDATA" "[Ljava/lang/Object;" (.ref dE) A U U.heap ∧ va_T (.object "java/lang/Object") dE 0 (fun _ => .null) A U U.heap ∧ ¬ A dE) ∧ (vx_Zq Bundle.tN "UNASSIGNED_STACK" Bundle.steD A U U.heap ∧ vx_Zq Bundle.tN "SUPPRESSED_SENTINEL" Bundle.listD A U U.heap) ∧
    (∀ x ∈ evCast, va_Nw (.castable x.1 x.2) U) ∧ (((∀ x ∈ evNc, va_Nc x.1 x.2 U) ∧ ∀ x ∈ evDec, va_Nw (.declares (Bundle.initS x)) U) ∧ ∀ x ∈ evNest, va_Nw (.fieldLinkNest x.1 x.2.1 x.2.2.1 x.2.2.2.1 x.2.2.2.2 "Archeloft") U) ∧ (∀ x ∈ evStr, ∃ a, vk_R RX6 x.1 x.2 a U) ∧ (va_AO "Archeloft$Entity" U ∧ va_AO "java/lang/Object" U) ∧ (va_Mi "[Ljava/lang/Object;" mi U ∧ va_Dc U)
theorem EV.go {D : va_G} {T : Nat → ClassId} {dE mi : Nat} {A : Nat → Prop} {s U : State} {H : Heap} {locs : List Loc} (h : EV D T dE mi A s) (hS : va_S A s.heap H locs) (hU : U.heap = H) (hW : s.WarmedH U.vm) : EV D T dE mi A U := by
  subst hU
  obtain ⟨h1, ⟨h2, h3, h4⟩, ⟨h5, h6⟩, h7, ⟨⟨h8, h8d⟩, h8n⟩, h9, ⟨h10, h11⟩, h12, h13⟩ := h
  have al := hW.alike
  exact ⟨va_K.moved al h1, ⟨(va_Z.moved al h2).kept hS.2.1, (va_T.moved al h3).kept hS.2.1, h4⟩, ⟨(vx_Zq.moved al h5).kept hS.2.1, (vx_Zq.moved al h6).kept hS.2.1⟩, fun x hx => va_Nw.warmC hW (h7 x hx), ⟨⟨fun x hx => (h8 x hx).moved al, fun x hx => vd_moved al (h8d x hx)⟩, fun x hx => va_Nw.warmF hW (h8n x hx)⟩, fun x hx => by obtain ⟨a, ha⟩ := h9 x hx; exact ⟨a, ha.warm hW⟩, ⟨h10.moved al, h11.moved al⟩, h12.moved al, h13.moved al⟩
theorem EV.blind {D : va_G} {T : Nat → ClassId} {dE mi : Nat} {A : Nat → Prop} {U : State} (a : Array Value) (g : JFrame) (mk : MethodId) (h : EV D T dE mi A U) : EV D T dE mi A (U.calling g mk a) :=
  h.go (U := U.calling g mk a) va_S.rf rfl (State.WarmedH.refl U)
abbrev rmL (k mc ms : Nat) : Room := { frames := k, cells := mc, slots := ms, locals := 40 * k }
abbrev PcE (D : va_G) (T : Nat → ClassId) (dE mi : Nat) (A : Nat → Prop) (H : Heap) (as : List Value) : Array Value → State → Prop := va_Pc as (fun U => U.heap = H ∧ EV D T dE mi A U)
abbrev QI (A : Nat → Prop) (P : Int32 → Heap → Prop) : Array Value → State → Outcome → State → Prop := va_Qi (S := Heap) P (fun u t => t.heap = u) A
abbrev QQ (A : Nat → Prop) (P : Option Nat → Heap → Prop) : Array Value → State → Outcome → State → Prop := va_Qq (S := Heap) P (fun u t => t.heap = u) A
abbrev QV (A : Nat → Prop) (P : Heap → Prop) : Array Value → State → Outcome → State → Prop := va_Qv (S := Heap) P (fun u t => t.heap = u) A
abbrev XX (A : Nat → Prop) (X : String → Heap → Prop) : String → State → State → Prop := vx_X (S := Heap) (fun _ => True) (fun E u t => t.heap = u ∧ X E u) A
abbrev XN : String → Heap → Prop := fun _ _ => False
theorem PcE.blind {D : va_G} {T : Nat → ClassId} {dE mi : Nat} {A : Nat → Prop} {H : Heap} {as : List Value} : FrameBlind (PcE D T dE mi A H as) := fun a _ g mk q => ⟨q.1, q.2.1, q.2.2.blind a g mk⟩
section KC
variable {p : Program} {l : Launch} {e : Env} {R : Room} {s : State} {m : MethodId} {args : Array Value} {below : List Frame} {meth : Method} {c : Code} {H : Heap} {locs : List Loc} {cells slots : Nat} {Q : State → Prop}
variable {cc : ByteArray} {pc : Nat} {ls : Array Slot} {rest st0 : List Value} {D : va_G} {T : Nat → ClassId} {dE mi : Nat} {A : Nat → Prop} {H0 : Heap}
variable {y : MethodName} {bytes : ByteArray} {maxL nL mc ms n index : Nat} {ret : Option FieldType} {ws : List Cond} {rm : Room} {Qc : Array Value → State → Outcome → State → Prop} {XC : String → State → State → Prop} {Ts : List Cond} {own C : String} {b : Addr} {As : List Value}
theorem k_V (S : CallFix p m c cc nL s args Ts own) (hev : EV D T dE mi A s) (hS : va_S A s.heap H locs) (hM : vx_Met l y ws rm (PcE D T dE mi A H (.ref b :: As)) Qc XC mc ms A) (cw : CallW R s args own C index y bytes maxL ret ws rm mc ms n) (hrecv : ∃ cell : Cell, H[b]? = some cell ∧ cell.vm.isStatics = false ∧ s.vm.findClass C = some cell.cls)
    (hn : As.length = n) (hsize : ls.size = nL) (hW : (rest.map fun v => v.category).sum ≤ 8) (hdg : decode cc pc = .ok (.invokevirtual index, 3)) (hc : cells + mc ≤ R.cells) (hs : slots + ms ≤ R.slots) :
    vx_Run p l e R s m args below meth c H locs cells slots mc ms (F0 m pc ls (As.reverse ++ .ref b :: rest)) rest (Qc (Value.ref b :: As).toArray) XC A :=
  vx_runV S hM cw ⟨PcE.blind, hrecv, fun U hU hW => ⟨rfl, hU, hev.go hS hU hW⟩⟩ rfl hn hsize rfl (lv_room hW) hdg ⟨hc, hs⟩
theorem k_S (S : CallFix p m c cc nL s args Ts own) (hev : EV D T dE mi A s) (hS : va_S A s.heap H locs) (hM : vx_Met l y ws rm (PcE D T dE mi A H As) Qc XC mc ms A) (cw : CallB R s args own index y bytes maxL ret ws rm mc ms n ∧ (Cond.static y).before args s = true)
    (hn : As.length = n) (hsize : ls.size = nL) (hW : (rest.map fun v => v.category).sum ≤ 8) (hdg : decode cc pc = .ok (.invokestatic index, 3)) (hc : cells + mc ≤ R.cells) (hs : slots + ms ≤ R.slots) :
    vx_Run p l e R s m args below meth c H locs cells slots mc ms (F0 m pc ls (As.reverse ++ rest)) rest (Qc As.toArray) XC A :=
  vx_runS S hM cw ⟨PcE.blind, fun U hU hW => ⟨rfl, hU, hev.go hS hU hW⟩⟩ rfl hn hsize rfl (lv_room hW) hdg ⟨hc, hs⟩
theorem k_I (S : CallFix p m c cc nL s args Ts own) (hev : EV D T dE mi A s) (hS : va_S A s.heap H locs) (hM : vx_Met l y ws rm (PcE D T dE mi A H (.ref b :: As)) Qc XC mc ms A) (cw : CallB R s args own index y bytes maxL none ws rm mc ms n ∧ y.name = "<init>" ∧ (Cond.instanceMethod y).before args s = true)
    (hn : As.length = n) (hsize : ls.size = nL) (hW : (rest.map fun v => v.category).sum ≤ 8) (hdg : decode cc pc = .ok (.invokespecial index, 3)) (hc : cells + mc ≤ R.cells) (hs : slots + ms ≤ R.slots) :
    vx_Run p l e R s m args below meth c H locs cells slots mc ms (F0 m pc ls (As.reverse ++ .ref b :: rest)) rest (Qc (Value.ref b :: As).toArray) XC A :=
  vx_runI S hM cw ⟨PcE.blind, fun U hU hW => ⟨rfl, hU, hev.go hS hU hW⟩⟩ rfl hn hsize rfl (lv_room hW) hdg ⟨hc, hs⟩
variable {a : Array Value} {X X' : String → Heap → Prop} {MC MS : Nat}
theorem k_i {P : Int32 → Heap → Prop} (hr : vx_Run p l e R s m args below meth c H locs cells slots mc ms (F0 m pc ls st0) rest (QI A P a) (XX A X) A) (hS : va_S A H0 H locs)
    (kx : ∀ (E : String) (ce : Cell) (q9 : Addr) (H1 : Heap) (locs1 : List Loc), X E H1 → H.size ≤ H1.size → va_S A H0 H1 locs1 → H1[q9]? = some ce → ce.vm = .none → s.vm.findClass E = some ce.cls → vx_W p l e R s m args below meth c H1 locs1 (cells + mc) (slots + ms) Q (F0 m pc ls rest) q9)
    (kk : ∀ (r : Int32) (H1 : Heap) (locs1 : List Loc), P r H1 → H.size ≤ H1.size → va_S A H0 H1 locs1 → W p l e R s m args below meth c H1 locs1 (cells + mc) (slots + ms) Q (F0 m (pc + 3) ls (.int r :: rest))) : W p l e R s m args below meth c H locs cells slots Q (F0 m pc ls st0) :=
  vx_calli hr hS (fun _ _ h => h) (fun _ h => h) (fun _ _ h => h)
    (fun E ce q9 u t H1 locs1 ht _ _ hb hz _ hS1 h7 h8 h9 => kx E ce q9 H1 locs1 (by rw [← ht, hb.1]; exact hb.2) hz hS1 h7 h8 h9)
    (fun r u t H1 locs1 ht _ hp hb hz _ hS1 => kk r H1 locs1 (by rw [← ht, hb]; exact hp) hz hS1)
theorem k_v {P : Heap → Prop} (hr : vx_Run p l e R s m args below meth c H locs cells slots mc ms (F0 m pc ls st0) rest (QV A P a) (XX A X) A) (hS : va_S A H0 H locs)
    (kx : ∀ (E : String) (ce : Cell) (q9 : Addr) (H1 : Heap) (locs1 : List Loc), X E H1 → H.size ≤ H1.size → va_S A H0 H1 locs1 → H1[q9]? = some ce → ce.vm = .none → s.vm.findClass E = some ce.cls → vx_W p l e R s m args below meth c H1 locs1 (cells + mc) (slots + ms) Q (F0 m pc ls rest) q9)
    (kk : ∀ (H1 : Heap) (locs1 : List Loc), P H1 → H.size ≤ H1.size → va_S A H0 H1 locs1 → W p l e R s m args below meth c H1 locs1 (cells + mc) (slots + ms) Q (F0 m (pc + 3) ls rest)) : W p l e R s m args below meth c H locs cells slots Q (F0 m pc ls st0) :=
  vx_callv hr hS (fun _ _ h => h) (fun _ h => h) (fun _ _ h => h)
    (fun E ce q9 u t H1 locs1 ht _ _ hb hz _ hS1 h7 h8 h9 => kx E ce q9 H1 locs1 (by rw [← ht, hb.1]; exact hb.2) hz hS1 h7 h8 h9)
    (fun u t H1 locs1 ht _ hp hb hz _ hS1 => kk H1 locs1 (by rw [← ht, hb]; exact hp) hz hS1)
theorem k_q {P : Option Nat → Heap → Prop} (hr : vx_Run p l e R s m args below meth c H locs cells slots mc ms (F0 m pc ls st0) rest (QQ A P a) (XX A X) A) (hS : va_S A H0 H locs)
    (kx : ∀ (E : String) (ce : Cell) (q9 : Addr) (H1 : Heap) (locs1 : List Loc), X E H1 → H.size ≤ H1.size → va_S A H0 H1 locs1 → H1[q9]? = some ce → ce.vm = .none → s.vm.findClass E = some ce.cls → vx_W p l e R s m args below meth c H1 locs1 (cells + mc) (slots + ms) Q (F0 m pc ls rest) q9)
    (kk : ∀ (r : Option Nat) (H1 : Heap) (locs1 : List Loc), P r H1 → H.size ≤ H1.size → va_S A H0 H1 locs1 → W p l e R s m args below meth c H1 locs1 (cells + mc) (slots + ms) Q (F0 m (pc + 3) ls (va_rf r :: rest))) : W p l e R s m args below meth c H locs cells slots Q (F0 m pc ls st0) :=
  vx_callq hr hS (fun _ _ h => h) (fun _ h => h) (fun _ _ h => h)
    (fun E ce q9 u t H1 locs1 ht _ _ hb hz _ hS1 h7 h8 h9 => kx E ce q9 H1 locs1 (by rw [← ht, hb.1]; exact hb.2) hz hS1 h7 h8 h9)
    (fun r u t H1 locs1 ht _ hp hb hz _ hS1 => kk r H1 locs1 (by rw [← ht, hb]; exact hp) hz hS1)
/-- what is thrown below leaves this method too -/
theorem k_up {E : String} {ce : Cell} {q9 : Addr} {H1 : Heap} {locs1 : List Loc} {k1 k2 : Nat} (hnt : ∀ x ∈ c.exceptionTable.toList, False) (hlk : meth.locks = false) (hS : va_S A s.heap H1 locs1) (h7 : H1[q9]? = some ce) (h8 : ce.vm = .none) (h9 : s.vm.findClass E = some ce.cls) (hX : X' E H1) (hc : k1 ≤ MC) (hs : k2 ≤ MS) :
    vx_W p l e R s m args below meth c H1 locs1 k1 k2 (vx_MQ below Qc (XX A X') args s MC MS A) (F0 m pc ls rest) q9 :=
  vx_out (fun x hx => (hnt x hx).elim) hlk h7 h8 h9 (fun t ht _ => ⟨H1, trivial, ⟨ht, hX⟩, hS.F ht⟩) hS.2.2 hc hs
theorem k_ip {P : Int32 → Heap → Prop} (hr : vx_Run p l e R s m args below meth c H locs cells slots mc ms (F0 m pc ls st0) rest (QI A P a) (XX A X) A) (hS : va_S A s.heap H locs) (hnt : ∀ x ∈ c.exceptionTable.toList, False) (hlk : meth.locks = false) (hX : ∀ (E : String) (H1 : Heap), X E H1 → H.size ≤ H1.size → X' E H1) (hc : cells + mc ≤ MC) (hs : slots + ms ≤ MS)
    (kk : ∀ (r : Int32) (H1 : Heap) (locs1 : List Loc), P r H1 → H.size ≤ H1.size → va_S A s.heap H1 locs1 → W p l e R s m args below meth c H1 locs1 (cells + mc) (slots + ms) (vx_MQ below Qc (XX A X') args s MC MS A) (F0 m (pc + 3) ls (.int r :: rest))) : W p l e R s m args below meth c H locs cells slots (vx_MQ below Qc (XX A X') args s MC MS A) (F0 m pc ls st0) :=
  k_i hr hS (fun E ce q9 H1 locs1 h hz hS1 h7 h8 h9 => k_up hnt hlk hS1 h7 h8 h9 (hX E H1 h hz) hc hs) kk
theorem k_vp {P : Heap → Prop} (hr : vx_Run p l e R s m args below meth c H locs cells slots mc ms (F0 m pc ls st0) rest (QV A P a) (XX A X) A) (hS : va_S A s.heap H locs) (hnt : ∀ x ∈ c.exceptionTable.toList, False) (hlk : meth.locks = false) (hX : ∀ (E : String) (H1 : Heap), X E H1 → H.size ≤ H1.size → X' E H1) (hc : cells + mc ≤ MC) (hs : slots + ms ≤ MS)
    (kk : ∀ (H1 : Heap) (locs1 : List Loc), P H1 → H.size ≤ H1.size → va_S A s.heap H1 locs1 → W p l e R s m args below meth c H1 locs1 (cells + mc) (slots + ms) (vx_MQ below Qc (XX A X') args s MC MS A) (F0 m (pc + 3) ls rest)) : W p l e R s m args below meth c H locs cells slots (vx_MQ below Qc (XX A X') args s MC MS A) (F0 m pc ls st0) :=
  k_v hr hS (fun E ce q9 H1 locs1 h hz hS1 h7 h8 h9 => k_up hnt hlk hS1 h7 h8 h9 (hX E H1 h hz) hc hs) kk
theorem k_qp {P : Option Nat → Heap → Prop} (hr : vx_Run p l e R s m args below meth c H locs cells slots mc ms (F0 m pc ls st0) rest (QQ A P a) (XX A X) A) (hS : va_S A s.heap H locs) (hnt : ∀ x ∈ c.exceptionTable.toList, False) (hlk : meth.locks = false) (hX : ∀ (E : String) (H1 : Heap), X E H1 → H.size ≤ H1.size → X' E H1) (hc : cells + mc ≤ MC) (hs : slots + ms ≤ MS)
    (kk : ∀ (r : Option Nat) (H1 : Heap) (locs1 : List Loc), P r H1 → H.size ≤ H1.size → va_S A s.heap H1 locs1 → W p l e R s m args below meth c H1 locs1 (cells + mc) (slots + ms) (vx_MQ below Qc (XX A X') args s MC MS A) (F0 m (pc + 3) ls (va_rf r :: rest))) : W p l e R s m args below meth c H locs cells slots (vx_MQ below Qc (XX A X') args s MC MS A) (F0 m pc ls st0) :=
  k_q hr hS (fun E ce q9 H1 locs1 h hz hS1 h7 h8 h9 => k_up hnt hlk hS1 h7 h8 h9 (hX E H1 h hz) hc hs) kk
/-- the ends -/
theorem r_i {P : Int32 → Heap → Prop} {r : Int32} (hx : p.tables.exec = Jvm.exec) (hb : c.code = cc) (hr : meth.sig.returnType = some .int) (hlk : meth.locks = false) (hS : va_S A s.heap H locs) (hc : cells ≤ MC) (hs : slots ≤ MS) (hdg : decode cc pc = .ok (.ireturn, 1)) (h : P r H) :
    W p l e R s m args below meth c H locs cells slots (vx_MQ below (QI A P) XC args s MC MS A) (F0 m pc ls [.int r]) :=
  vx_ret (W.widen hc hs (W.iret hx hb hr (fun t ht _ => ⟨⟨r, H, rfl, h, ht⟩, hS.F ht⟩) hS.2.2 hdg hlk))
theorem r_z {P : Int32 → Heap → Prop} {r : Int32} (hx : p.tables.exec = Jvm.exec) (hb : c.code = cc) (hr : meth.sig.returnType = some .boolean) (hlk : meth.locks = false) (hS : va_S A s.heap H locs) (hc : cells ≤ MC) (hs : slots ≤ MS) (hdg : decode cc pc = .ok (.ireturn, 1)) (hn : narrow .boolean (.int r) = .int r) (h : P r H) :
    W p l e R s m args below meth c H locs cells slots (vx_MQ below (QI A P) XC args s MC MS A) (F0 m pc ls [.int r]) :=
  vx_ret (W.widen hc hs (W.zret hx hb hr hn (fun t ht _ => ⟨⟨r, H, rfl, h, ht⟩, hS.F ht⟩) hS.2.2 hdg hlk))
theorem r_v {P : Heap → Prop} (hx : p.tables.exec = Jvm.exec) (hb : c.code = cc) (hr : meth.sig.returnType = none) (hlk : meth.locks = false) (hS : va_S A s.heap H locs) (hc : cells ≤ MC) (hs : slots ≤ MS) (hdg : decode cc pc = .ok (.return_, 1)) (h : P H) :
    W p l e R s m args below meth c H locs cells slots (vx_MQ below (QV A P) XC args s MC MS A) (F0 m pc ls []) :=
  vx_ret (W.widen hc hs (W.vret hx hb hr (fun t ht _ => ⟨⟨H, rfl, h, ht⟩, hS.F ht⟩) hS.2.2 hdg hlk))
theorem r_q {P : Option Nat → Heap → Prop} {r : Option Nat} {rt : FieldType} (hx : p.tables.exec = Jvm.exec) (hb : c.code = cc) (hr : meth.sig.returnType = some rt) (hrt : (∃ n, rt = .object n) ∨ ∃ t, rt = .array t) (hlk : meth.locks = false) (hS : va_S A s.heap H locs) (hc : cells ≤ MC) (hs : slots ≤ MS) (hdg : decode cc pc = .ok (.areturn, 1)) (h : P r H) :
    W p l e R s m args below meth c H locs cells slots (vx_MQ below (QQ A P) XC args s MC MS A) (F0 m pc ls [va_rf r]) :=
  vx_ret (W.widen hc hs (W.aret hx hb hr hrt (va_rf_or r) (fun t ht _ => ⟨⟨r, H, rfl, h, ht⟩, hS.F ht⟩) hS.2.2 hdg hlk))
/-- 'throw new E("..")' in the class Archeloft -/
theorem k_thr {cls text : String} {ik is ic : Nat} (hx : p.tables.exec = Jvm.exec) (hb : c.code = cc) (hl : l.stackTraces = false) (hown : s.vm.findClass RX6 = some m.cls) (hev : EV D T dE mi A s) (hS : va_S A s.heap H locs) (hcls : Bundle.fit cls = true)
    (hk : (Cond.classLink RX6 ik cls).before args s = true) (hini : (Cond.initialized cls).before args s = true) (hstr : (is, text) ∈ evStr) (hcc : (cls, cls) ∈ evCast) (hat : ∀ w ∈ (vx_atS RX6 ic cls ["java/lang/RuntimeException", "java/lang/Exception"]).filter goodWord, w.before args s = true)
    (hng : ∀ w ∈ (vx_atS RX6 ic cls ["java/lang/RuntimeException", "java/lang/Exception"]).filter (fun w => !goodWord w), w ∈ [Cond.castable cls cls, .declares (Bundle.initS "java/lang/RuntimeException"), .declares (Bundle.initS "java/lang/Exception"), .declares (Bundle.initS Bundle.tN)])
    (hgood : ∀ w ∈ Cond.classLink RX6 ik cls :: Cond.initialized cls :: vx_atS RX6 ic cls ["java/lang/RuntimeException", "java/lang/Exception"], vx_ot w = true) (hsize : ls.size = c.maxLocals)
    (d0 : decode cc pc = .ok (.new ik, 3)) (d3 : decode cc (pc + 3) = .ok (.dup, 1)) (d4 : decode cc (pc + 4) = .ok (.ldc is, 2)) (d6 : decode cc (pc + 6) = .ok (.invokespecial ic, 3)) (d9 : decode cc (pc + 9) = .ok (.athrow, 1))
    (hnt : ∀ x ∈ c.exceptionTable.toList, False) (hRf : 5 < R.frames) (hRl : (rest.map fun v => v.category).sum + 82 ≤ R.locals) (hRc : cells + 1 ≤ R.cells) (hRs : slots + 6 ≤ R.slots) (hlk : meth.locks = false)
    (hX : ∀ H1 : Heap, H.size ≤ H1.size → (∀ q : Nat, q < H.size → H1[q]? = H[q]?) → X' cls H1) (hc : cells + 1 ≤ MC) (hs : slots + 6 ≤ MS) :
    W p l e R s m args below meth c H locs cells slots (vx_MQ below Qc (XX A X') args s MC MS A) (F0 m pc ls rest) := by
  obtain ⟨-, -, ⟨hU, hN⟩, hca, ⟨⟨-, hde⟩, -⟩, hst, -⟩ := hev
  obtain ⟨sa, hsa⟩ := hst _ hstr
  refine vx_throwS hx hb hl hown hcls (fun n hn => ?_) hk hini hsa (vx_hat hat hng (vx_c (va_Nw.use rfl (hca _ hcc)) (vx_c (va_Nw.use rfl (hde _ (by decide +kernel))) (vx_c (va_Nw.use rfl (hde _ (by decide +kernel))) (vx_c (va_Nw.use rfl (hde _ (by decide +kernel))) vx_n))))) hgood hU hN hS hsize d0 d3 d4 d6 d9 (fun x hx => (hnt x hx).elim) hRf hRl hRc hRs hlk (fun t _ hz hk => ⟨t.heap, trivial, ⟨rfl, hX t.heap hz hk⟩, Nat.le_trans hS.1 hz, fun q h1 h2 => (hk q (Nat.lt_of_lt_of_le h1 hS.1)).trans (hS.2.1 q h1 h2)⟩) hS.2.2 hc hs
  rcases List.mem_cons.mp hn with rfl | hn
  · decide +kernel
  · rcases List.mem_cons.mp hn with rfl | hn
    · decide +kernel
    · cases hn
end KC
theorem entry {l : Launch} {y : MethodName} {ws ws' : List Cond} {k mc ms : Nat} {Qc : Array Value → State → Outcome → State → Prop} {XC : String → State → State → Prop} {D : va_G} {T : Nat → ClassId} {dE mi : Nat} {A : Nat → Prop} {H : Heap} {as : List Value} {cc : ByteArray} {maxL : Nat} {ret : Option FieldType}
    (hy : plainName y.cls = true) (hw : ws = Cond.code y cc maxL ret :: ws') (hle : (lg_sl as).length ≤ maxL)
    (body : ∀ (p : Program) (e : Env) (s : State) (m : MethodId) (args : Array Value) (below : List Frame) (meth : Method) (c : Code), p.tables.exec = Jvm.exec → c.code = cc → meth.sig.returnType = ret → c.maxLocals = maxL → s.vm.findClass y.cls = some m.cls → (∀ w ∈ ws, w.before args s = true) → meth.locks = false → (∀ x ∈ c.exceptionTable.toList, False) → meth.name = y.name → EV D T dE mi A s → va_S A s.heap H [] →
      ∀ ls : Array Slot, lv_has ls maxL (lv_args 0 as) → W p l e (rmL k mc ms) s m args below meth c H [] 0 0 (vx_MQ below Qc XC args s mc ms A) (F0 m 0 ls [])) : vx_Met l y ws (rmL k mc ms) (PcE D T dE mi A H as) Qc XC mc ms A := by
  refine vx_ofW hy hw ?_
  intro p e s m args below meth c s₁ B hml hnt hv
  obtain ⟨rfl, hsz, hev⟩ := hv
  subst hsz
  rw [lg_entry_eq]
  exact body p e s m _ below meth c B.exec B.bytes B.returns hml (findClass_of_methodNamed B.named) (atoms_spec (ws := ws) B.pre) B.notSynchronized hnt (name_of_methodNamed B.named B.method).1 hev va_S.rf _ (lv_entry as hle)
