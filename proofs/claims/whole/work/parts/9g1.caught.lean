-- CAUGHT BY THE ONE ROW OF A TABLE, its entry resolved or not
-- the search through a table of one row that takes the thrown object: it names the row's handler, and notes the row's entry
theorem lt_find {e : Env} {S : State} {f : JFrame} {a : Addr} {meth : Method} {code : Code} {x : ExceptionTableEntry} {cN : ClassId} {cell : Cell} (hm : S.vm.method? f.method = some meth) (hc : meth.code = some code) (hone : code.exceptionTable.toList = [x]) (hx : covers x f.pc = true) (h0 : x.catchType ≠ 0)
    (hl : S.vm.ClassLinks e.platform f.method.cls x.catchType cN) (hcell : S.heap[a]? = some cell) (hv : cell.vm = .none) (hkE : ∃ k, S.vm.classes[cell.cls]? = some k) (hkN : ∃ k, S.vm.classes[cN]? = some k) (hasg : S.vm.assignable cell.cls cN = true)
    (Q : Handler → Pre) (E : CtlPost) (d : Bool) (acts : List Action) : wp (findHandler f a) Q E e d acts S ↔ Q (.found x.handlerPc) d acts (S.setVm (S.vm.noted f.method.cls x.catchType (.cls cN))) := by
  rw [W.findHandler_eq hm hc, hone]
  have hal : S.vm.Alike (S.vm.noted f.method.cls x.catchType (.cls cN)) := (Vm.Alike.refl S.vm).noted _ _ _
  obtain ⟨kE, hkE⟩ := hkE
  obtain ⟨kN, hkN⟩ := hkN
  obtain ⟨kE', hE', -⟩ := hal.2.2 _ _ hkE
  obtain ⟨kN', hN', -⟩ := hal.2.2 _ _ hkN
  have hasg' : (S.vm.noted f.method.cls x.catchType (.cls cN)).assignable cell.cls cN = true := by rw [hal.assignable]; exact hasg
  obtain ⟨ha, hb⟩ := (resolveClass_links e.toSetting hl).op (op := VmOp.resolveClass f.method.cls x.catchType) rfl
  simp only [covers] at hx
  simp [findHandler.go, hx, h0, ha, hb, hcell, hv, hE', hN', hasg', VmOp.dirties, VmOp.acts]
-- the machine's step behind such a search
theorem lt_step {e : Env} {S : State} {q : Addr} {f : JFrame} {r : List Frame} {pc : Nat} {v1 : Vm} (h : ∀ (Q : Handler → Pre) (E : CtlPost) (d : Bool) (acts : List Action), wp (findHandler f q) Q E e d acts S ↔ Q (.found pc) d acts (S.setVm v1)) :
    (stepThrowing e S q (.java f :: r)).1 = (S.setVm v1).setFrames (.java { f with pc := pc, stack := [.ref q] } :: r) := by
  simp only [stepThrowing, searchFrame, vmDo]
  generalize hr : Sem.go _ e false [] S = res
  obtain ⟨as, rfl, -⟩ := Sem.eq_ok_of hr (a := Handler.found pc) (s' := S.setVm v1) (acts' := []) (by simp [h _ _ _ _])
  rfl
theorem vx_catch {p : Program} {l : Launch} {e : Env} {R : Room} {s : State} {m : MethodId} {args : Array Value} {below : List Frame} {meth : Method} {c : Code} {H : Heap} {locs : List Loc} {cells slots : Nat} {Q : State → Prop} {pc : Nat} {ls : Array Slot} {rest : List Value}
    {own name E : String} {ce : Cell} {q : Addr} (x : ExceptionTableEntry) (hown : s.vm.findClass own = some m.cls) (hone : c.exceptionTable.toList = [x]) (hx : covers x pc = true) (h0 : x.catchType ≠ 0)
    (hlink : (Cond.classLink own x.catchType name).before args s = true) (hcast : (Cond.castable E name).before args s = true) (hcell : H[q]? = some ce) (hv : ce.vm = .none) (hcl : s.vm.findClass E = some ce.cls)
    (kk : W p l e R s m args below meth c H locs cells slots Q (F0 m x.handlerPc ls [.ref q])) : vx_W p l e R s m args below meth c H locs cells slots Q (F0 m pc ls rest) q := by
  intro T hT X
  subst hT
  have hpl : e.platform.magicAccessors = ({} : Platform).magicAccessors := by rw [X.admits.platform]
  obtain ⟨c3, cN, hc3, hcN, hasg⟩ := Cond.castable_spec hcast
  cases Option.some.inj (hc3.symm.trans hcl)
  obtain ⟨c5, hc5, hlk⟩ := Cond.classLink_spec hown hlink e.platform hpl
  cases Option.some.inj (hcN.symm.trans hc5)
  obtain ⟨dk, _, _, kt, hd, _, _, _, _, hkt, _, hopen⟩ := hlk.here
  have hal := X.warmed.alike
  have hW1 : s.WarmedH (T.vm.noted m.cls x.catchType (.cls cN)) := X.warmed.noted hd hopen (State.rightAt_cls hlk)
  obtain ⟨t, a1, b1⟩ := kk (T.setVm (T.vm.noted m.cls x.catchType (.cls cN))) rfl (X.noted hW1)
  refine ⟨t, ?_, b1⟩
  obtain ⟨kt', hkt', -⟩ := hal.2.2 _ _ hkt
  have hasg' : T.vm.assignable ce.cls cN = true := by rw [hal.assignable]; exact hasg
  have hfind := lt_find (e := e) (S := (T.setTop (F0 m pc ls rest)).pushFrame (.throwing q)) (f := F0 m pc ls rest) (a := q) (meth := meth) (code := c) (cell := ce) X.method' X.code hone hx h0 (X.warmed.classLinks hlk) hcell hv (Vm.classAt_of_assignable hasg' ⟨kt', hkt'⟩) ⟨kt', hkt'⟩ hasg'
  have hat : At T (F0 m pc ls rest).method c below := X.here
  obtain ⟨hgo, hw⟩ := hat.throwing q
  refine Steps.head hgo hw ?_
  rw [stepThread_throwing (frames_entered hat.top _), lt_step hfind]
  obtain ⟨g0, hg0⟩ := Option.isSome_iff_exists.mp hat.top
  obtain ⟨r, hr⟩ := State.topJava?_eq_some.mp hg0
  have hr1 : (T.setVm (T.vm.noted m.cls x.catchType (.cls cN))).frames = .java g0 :: r := hr
  rw [State.setTop_of_frames _ hr1] at a1
  have k : ∀ (z : State) (v1 : Vm) (F G : List Frame), ((z.setFrames F).setVm v1).setFrames G = (z.setVm v1).setFrames G := fun z v1 F G => by
    show ((z.setVm v1).setFrames F).setFrames G = _
    rw [State.setFrames_setFrames]
  rw [hr, List.tail_cons, State.pushFrame, k, State.setTop_of_frames _ hr, k]
  exact a1
